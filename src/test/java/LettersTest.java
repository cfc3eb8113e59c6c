/** Promises 1 to 10: a new object, letters, words, slots, gap. */
public final class LettersTest {
    private static final int BAD = LetteredRock.BAD, FULL = LetteredRock.FULL, NONE = LetteredRock.NONE;
    private static final int MIN = Integer.MIN_VALUE, MAX = Integer.MAX_VALUE;
    private static final Check check = new Check();

    public static void main(String[] args) {
        newObject();
        letterNumbersAndEdges();
        letterRefusals();
        stripsKeepAndAnswerOld();
        stripRefusals();
        aboutTellsAll();
        spellCounts();
        wipeEmpties();
        slotsAndGap();
        wideCountsGaps();
        longestByLettersThenWidthThenNumber();
        longestSkipsWhatDoesNotFit();
        check.end();
    }

    private static void newObject() {
        LetteredRock x = new LetteredRock();
        check.due("new count(0)", x.count(0), 0);
        check.due("new count(1)", x.count(1), 0);
        check.due("new count(2)", x.count(2), 30);
        check.due("new count(3)", x.count(3), 1);
        for (int what = 4; what <= 8; what++) {
            check.due("new count(" + what + ")", x.count(what), 0);
        }
        for (int w = 0; w < 8; w++) {
            check.due("new wide(" + w + ")", x.wide(w), 0);
            check.due("new wipe(" + w + ")", x.wipe(w), 0);
        }
        check.due("new longest()", x.longest(), NONE);
        for (int s = 0; s < 4; s++) {
            check.due("new lose(" + s + ")", x.lose(s), -11);
        }
        for (int week = 0; week < 52; week++) {
            check.due("new make(" + week + ")", x.make(week, 0), 0);
        }
        check.due("DRAW", x.set(0, 10), 100);
        check.due("TRIM", x.set(1, 0), 10);
        check.due("STICK", x.set(2, 1), 20);
        check.due("SOFTENS", x.set(3, 0), 10);
    }

    private static void letterNumbersAndEdges() {
        LetteredRock x = new LetteredRock();
        check.due("least letter", x.letter(1, 1, 1), 0);
        check.due("greatest letter", x.letter(5, 9, 99), 1);
        for (int i = 0; i < 5; i++) {
            check.due("strip " + i + " at first", x.about(1, 10 + i), 0);
        }
        for (int n = 2; n < 16; n++) {
            check.due("letter " + n, x.letter(2, 2, 2), n);
        }
        check.due("letter 16", x.letter(2, 2, 2), FULL);
        check.due("BAD comes ahead of FULL", x.letter(0, 2, 2), BAD);
        check.due("count(0)", x.count(0), 16);
        check.due("the last letter", x.about(15, 0), 2);
        check.due("about no letter behind", x.about(16, 0), BAD);
        check.due("strip of no letter behind", x.strip(16, 0, 0), BAD);
        check.due("spell the last letter", x.spell(0, 15), 1);
        check.due("spell no letter behind", x.spell(0, 16), BAD);
    }

    private static void letterRefusals() {
        LetteredRock x = new LetteredRock();
        int[][] wrong = {{0, 1, 1}, {6, 1, 1}, {1, 0, 1}, {1, 10, 1}, {1, 1, 0}, {1, 1, 100},
            {MIN, 1, 1}, {MAX, 1, 1}, {1, MIN, 1}, {1, MAX, 1}, {1, 1, MIN}, {1, 1, MAX}};
        for (int[] w : wrong) {
            check.due("letter(" + w[0] + ", " + w[1] + ", " + w[2] + ")", x.letter(w[0], w[1], w[2]), BAD);
        }
        check.due("count(0)", x.count(0), 0);
    }

    private static void stripsKeepAndAnswerOld() {
        LetteredRock x = new LetteredRock();
        x.letter(5, 1, 1);
        x.letter(5, 1, 1);
        for (int i = 0; i < 5; i++) {
            check.due("strip first", x.strip(0, i, 31 - i), 0);
        }
        for (int i = 0; i < 5; i++) {
            check.due("strip second", x.strip(0, i, 0), 31 - i);
            check.due("strip of another letter", x.about(1, 10 + i), 0);
        }
    }

    private static void stripRefusals() {
        LetteredRock x = new LetteredRock();
        check.due("strip of no letter", x.strip(0, 0, 0), BAD);
        x.letter(2, 1, 1);
        x.strip(0, 0, 9);
        int[][] wrong = {{-1, 0, 0}, {1, 0, 0}, {16, 0, 0}, {MAX, 0, 0}, {MIN, 0, 0}, {0, -1, 0}, {0, 2, 0},
            {0, MAX, 0}, {0, MIN, 0}, {0, 0, -1}, {0, 0, 32}, {0, 0, MAX}, {0, 0, MIN}};
        for (int[] w : wrong) {
            check.due("strip(" + w[0] + ", " + w[1] + ", " + w[2] + ")", x.strip(w[0], w[1], w[2]), BAD);
        }
        check.due("strip 0", x.about(0, 10), 9);
        check.due("strip 1", x.about(0, 11), 0);
    }

    private static void aboutTellsAll() {
        LetteredRock x = new LetteredRock();
        check.due("about of no letter", x.about(0, 0), BAD);
        x.letter(3, 7, 55);
        x.strip(0, 0, 1);
        x.strip(0, 1, 2);
        x.strip(0, 2, 30);
        check.due("WIDTH", x.about(0, 0), 3);
        check.due("MINUTES", x.about(0, 1), 7);
        check.due("SOFT", x.about(0, 2), 55);
        check.due("STRIP 0", x.about(0, 10), 1);
        check.due("STRIP 1", x.about(0, 11), 2);
        check.due("STRIP 2", x.about(0, 12), 30);
        for (int what : new int[] {-1, 3, 4, 9, 13, 14, 15, MIN, MIN + 9, MAX}) {
            check.due("about(0, " + what + ")", x.about(0, what), BAD);
        }
        for (int letter : new int[] {-1, 1, 16, MIN, MAX}) {
            check.due("about(" + letter + ", 0)", x.about(letter, 0), BAD);
        }
    }

    private static void spellCounts() {
        LetteredRock x = new LetteredRock();
        x.letter(1, 1, 1);
        for (int n = 1; n <= 10; n++) {
            check.due("spell " + n, x.spell(7, 0), n);
        }
        check.due("spell 11", x.spell(7, 0), FULL);
        check.due("wide of ten", x.wide(7), 20);
        check.due("another word", x.spell(0, 0), 1);
        check.due("BAD comes ahead of FULL", x.spell(7, 1), BAD);
        for (int[] w : new int[][] {{-1, 0}, {8, 0}, {MIN, 0}, {MAX, 0}, {1, -1}, {1, 1}, {1, 16}, {1, MIN}, {1, MAX}}) {
            check.due("spell(" + w[0] + ", " + w[1] + ")", x.spell(w[0], w[1]), BAD);
        }
        check.due("word 1 is empty still", x.wipe(1), 0);
    }

    private static void wipeEmpties() {
        LetteredRock x = new LetteredRock();
        x.letter(2, 1, 1);
        x.letter(5, 1, 1);
        x.spell(3, 0);
        x.spell(3, 0);
        x.spell(3, 1);
        x.spell(4, 0);
        check.due("wipe(3)", x.wipe(3), 3);
        check.due("wipe(3) again", x.wipe(3), 0);
        check.due("wide(3)", x.wide(3), 0);
        check.due("wide(4)", x.wide(4), 3);
        check.due("spell behind wipe", x.spell(3, 1), 1);
        check.due("wide behind wipe", x.wide(3), 6);
        for (int word : new int[] {-1, 8, MIN, MAX}) {
            check.due("wipe(" + word + ")", x.wipe(word), BAD);
        }
    }

    private static void slotsAndGap() {
        LetteredRock x = new LetteredRock();
        check.due("slots(5)", x.slots(5), 30);
        check.due("slots(60)", x.slots(60), 5);
        for (int s : new int[] {4, 61, 0, -1, MIN, MAX}) {
            check.due("slots(" + s + ")", x.slots(s), BAD);
        }
        check.due("count(2)", x.count(2), 60);
        check.due("gap(0)", x.gap(0), 1);
        check.due("gap(3)", x.gap(3), 0);
        for (int g : new int[] {-1, 4, MIN, MAX}) {
            check.due("gap(" + g + ")", x.gap(g), BAD);
        }
        check.due("count(3)", x.count(3), 3);
    }

    private static void wideCountsGaps() {
        LetteredRock x = new LetteredRock();
        x.letter(5, 1, 1);
        x.letter(2, 1, 1);
        for (int n = 0; n < 9; n++) {
            x.spell(2, 0);
        }
        x.spell(2, 1);
        check.due("wide, gap 1", x.wide(2), 57);
        x.gap(0);
        check.due("wide, gap 0", x.wide(2), 47);
        x.gap(3);
        check.due("wide beyond the slots", x.wide(2), 77);
        check.due("wide of an empty word", x.wide(1), 0);
        for (int word : new int[] {-1, 8, MIN, MAX}) {
            check.due("wide(" + word + ")", x.wide(word), BAD);
        }
    }

    private static void longestByLettersThenWidthThenNumber() {
        LetteredRock x = new LetteredRock();
        x.letter(1, 1, 1);
        x.letter(5, 1, 1);
        x.spell(1, 1);
        check.due("the only one", x.longest(), 1);
        x.spell(5, 0);
        x.spell(5, 0);
        check.due("more letters, though less wide", x.longest(), 5);
        x.spell(6, 1);
        x.spell(6, 0);
        check.due("as many letters, wider", x.longest(), 6);
        x.spell(3, 0);
        x.spell(3, 1);
        check.due("like ones: the least number", x.longest(), 3);
        x.spell(7, 0);
        x.spell(7, 1);
        check.due("a like one behind", x.longest(), 3);
    }

    private static void longestSkipsWhatDoesNotFit() {
        LetteredRock x = new LetteredRock();
        x.letter(4, 1, 1);
        x.spell(0, 0);
        x.spell(0, 0);
        x.spell(2, 0);
        x.slots(10);
        check.due("just fits", x.longest(), 0);
        check.due("both fit", x.count(1), 2);
        x.slots(9);
        check.due("one slot less", x.longest(), 2);
        check.due("one fits", x.count(1), 1);
        x.slots(5);
        check.due("as wide as the slots", x.longest(), 2);
        x.gap(2);
        check.due("none fits", x.longest(), NONE);
        check.due("no word fits", x.count(1), 0);
    }
}
