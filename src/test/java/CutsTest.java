/** Promises 11 to 14: cuts and their readings. */
public final class CutsTest {
    private static final int BAD = LetteredRock.BAD, NOT = LetteredRock.NOT, NONE = LetteredRock.NONE;
    private static final int MIN = Integer.MIN_VALUE, MAX = Integer.MAX_VALUE;
    private static final Check check = new Check();

    public static void main(String[] args) {
        cutsOfAllLooks();
        cutFollowsGapAndSlots();
        cutUpsideDown();
        cutRefusals();
        readingsOfAnEmptySheet();
        readingsInOrder();
        readingsOfLostItems();
        readingsBeyondTheSlots();
        readingsOfEveryForm();
        readingRefusals();
        check.end();
    }

    /** Word 0 is laid as 1, 6, 0, 16, 0 and empty slots behind. */
    private static LetteredRock twoLetters() {
        LetteredRock x = new LetteredRock();
        x.letter(2, 1, 1);
        x.letter(1, 1, 1);
        x.strip(0, 0, 1);
        x.strip(0, 1, 6);
        x.strip(1, 0, 16);
        x.spell(0, 0);
        x.spell(0, 1);
        return x;
    }

    private static void cutRow(LetteredRock x, int turn, int look, int... want) {
        for (int i = 0; i < want.length; i++) {
            check.due("cut(0, " + turn + ", " + look + ", " + i + ")", x.cut(0, turn, look, i), want[i]);
        }
    }

    private static void cutsOfAllLooks() {
        LetteredRock x = twoLetters();
        x.slots(7);
        cutRow(x, 0, 0, 1, 6, 0, 16, 0, 0, 0);
        cutRow(x, 2, 0, 0, 16, 0, 0, 0, 1, 6);
        cutRow(x, 6, 0, 0, 1, 6, 0, 16, 0, 0);
        cutRow(x, 0, 1, 1, 0, 0, 0, 16, 0, 6);
        cutRow(x, 3, 1, 16, 0, 6, 1, 0, 0, 0);
        cutRow(x, 0, 2, 16, 12, 0, 1, 0, 0, 0);
        cutRow(x, 1, 3, 12, 16, 0, 0, 0, 1, 0);
    }

    private static void cutFollowsGapAndSlots() {
        LetteredRock x = twoLetters();
        x.slots(60);
        check.due("the last slot", x.cut(0, 59, 0, 0), 0);
        check.due("round from the last slot", x.cut(0, 59, 0, 1), 1);
        check.due("last place, last turn", x.cut(0, 59, 0, 59), 0);
        check.due("mirrored to the last place", x.cut(0, 0, 1, 59), 6);
        x.slots(9);
        x.gap(3);
        cutRow(x, 0, 0, 1, 6, 0, 0, 0, 16, 0, 0, 0);
        x.slots(5);
        check.due("does not fit", x.cut(0, 0, 0, 0), NOT);
        x.gap(0);
        cutRow(x, 0, 0, 1, 6, 16, 0, 0);
        x.strip(0, 0, 31);
        cutRow(x, 0, 0, 31, 6, 16, 0, 0);
        x.wipe(0);
        x.spell(0, 1);
        cutRow(x, 0, 0, 16, 0, 0, 0, 0);
    }

    private static void cutUpsideDown() {
        LetteredRock x = new LetteredRock();
        x.letter(1, 1, 1);
        x.spell(0, 0);
        int[] strips = {0, 1, 2, 4, 8, 16, 3, 5, 11, 23, 31};
        int[] flipped = {0, 16, 8, 4, 2, 1, 24, 20, 26, 29, 31};
        for (int k = 0; k < strips.length; k++) {
            x.strip(0, 0, strips[k]);
            check.due("upside down " + strips[k], x.cut(0, 0, 2, 0), flipped[k]);
        }
    }

    private static void cutRefusals() {
        LetteredRock x = twoLetters();
        x.slots(7);
        int[][] wrong = {{-1, 0, 0, 0}, {8, 0, 0, 0}, {MIN, 0, 0, 0}, {MAX, 0, 0, 0}, {0, -1, 0, 0}, {0, 7, 0, 0},
            {0, MAX, 0, 0}, {0, MIN, 0, 0}, {0, 0, -1, 0}, {0, 0, 4, 0}, {0, 0, MIN, 0}, {0, 0, MAX, 0},
            {0, 0, 0, -1}, {0, 0, 0, 7}, {0, 0, 0, MIN}, {0, 0, 0, MAX}};
        for (int[] w : wrong) {
            String call = "cut(" + w[0] + ", " + w[1] + ", " + w[2] + ", " + w[3] + ")";
            check.due(call, x.cut(w[0], w[1], w[2], w[3]), BAD);
        }
        check.due("an empty word", x.cut(1, 6, 3, 6), NOT);
        check.due("BAD comes ahead of NOT", x.cut(1, 7, 0, 0), BAD);
    }

    private static void readingsOfAnEmptySheet() {
        LetteredRock x = twoLetters();
        x.sheet(3, 1, 0);
        check.due("readings of one word", x.readings(3), 120);
        x.spell(7, 1);
        x.slots(60);
        check.due("readings of two words", x.readings(3), 480);
        check.due("the first", x.reading(3, 0), 0);
        check.due("the second look", x.reading(3, 60), 100);
        check.due("the last of word 0", x.reading(3, 239), 359);
        check.due("the first of word 7", x.reading(3, 240), 7000);
        check.due("the last", x.reading(3, 479), 7359);
        check.due("none behind", x.reading(3, 480), NONE);
        check.due("far behind", x.reading(3, MAX), NONE);
        check.due("words", x.words(3), 129);
        x.wipe(0);
        x.wipe(7);
        check.due("no word, no readings", x.readings(3), 0);
        check.due("no word, no reading", x.reading(3, 0), NONE);
        check.due("no words", x.words(3), 0);
    }

    /** The whole cut of word 0 at turn 2, so that few readings are left. */
    private static void readingsInOrder() {
        LetteredRock x = twoLetters();
        x.slots(7);
        x.sheet(0, 0, 7);
        int[] row = {0, 16, 0, 0, 0, 1, 6};
        for (int i = 0; i < row.length; i++) {
            x.put(0, 0, i, row[i]);
        }
        check.due("one reading", x.readings(0), 1);
        check.due("turn 2", x.reading(0, 0), 2);
        check.due("words", x.words(0), 1);
        x.spell(5, 0);
        x.spell(5, 1);
        check.due("a like word", x.readings(0), 2);
        check.due("its reading", x.reading(0, 1), 5002);
        check.due("words of both", x.words(0), 33);
        x.put(0, 0, 6, 7);
        check.due("a strip that no word has", x.readings(0), 0);
        check.due("no words", x.words(0), 0);
    }

    private static void readingsOfLostItems() {
        LetteredRock x = twoLetters();
        x.slots(7);
        x.sheet(1, 2, 7);
        for (int i = 0; i < 7; i++) {
            x.put(1, 2, i, i % 2 == 0 ? -1 : 32);
        }
        check.due("all items lost", x.readings(1), 28);
        x.put(1, 2, 3, 16);
        check.due("16 at place 3: of slot 3, or of slot 0 upside down", x.readings(1), 4);
        check.due("look 0", x.reading(1, 0), 0);
        check.due("look 1", x.reading(1, 1), 106);
        check.due("look 2", x.reading(1, 2), 204);
        check.due("look 3", x.reading(1, 3), 303);
        check.due("none behind", x.reading(1, 4), NONE);
        x.put(1, 2, 0, MIN);
        x.put(1, 2, 1, MAX);
        check.due("far out of range is lost", x.readings(1), 4);
        x.put(1, 2, 3, 31);
        check.due("31 is not lost", x.readings(1), 0);
        x.put(1, 2, 3, 0);
        check.due("0 is not lost", x.readings(1), 16);
    }

    private static void readingsBeyondTheSlots() {
        LetteredRock x = twoLetters();
        x.slots(5);
        x.sheet(2, 1, 60);
        for (int i = 0; i < 60; i++) {
            x.put(2, 1, i, i < 5 ? -1 : 31);
        }
        check.due("items behind the slots are no places", x.readings(2), 20);
        x.slots(6);
        check.due("one slot more asks for its item", x.readings(2), 0);
    }

    private static void readingsOfEveryForm() {
        LetteredRock x = twoLetters();
        x.slots(5);
        for (int form = 0; form <= 2; form++) {
            x.sheet(form, form, 2);
            x.put(form, form, 0, 1);
            x.put(form, form, 1, 6);
            check.due("readings of form " + form, x.readings(form), 1);
            check.due("reading of form " + form, x.reading(form, 0), 0);
        }
    }

    private static void readingRefusals() {
        LetteredRock x = twoLetters();
        long digest = x.digest();
        for (int s : new int[] {-1, 4, MIN, MAX}) {
            check.due("readings(" + s + ")", x.readings(s), BAD);
            check.due("reading(" + s + ", 0)", x.reading(s, 0), BAD);
            check.due("words(" + s + ")", x.words(s), BAD);
        }
        check.due("BAD comes ahead of NULL", x.reading(0, -1), BAD);
        check.due("the least i", x.reading(0, MIN), BAD);
        check.unchanged("BAD", x, digest, 0);
        x.sheet(0, 0, -1);
        check.due("readings of a lost sheet", x.readings(3), -11);
        check.unchanged("NULL of readings", x, digest, 1);
        x.sheet(0, 0, -1);
        check.due("reading of a lost sheet", x.reading(3, 0), -11);
        check.unchanged("NULL of reading", x, digest, 1);
        x.sheet(0, 0, -1);
        check.due("words of a lost sheet", x.words(3), -11);
        check.unchanged("NULL of words", x, digest, 1);
    }
}
