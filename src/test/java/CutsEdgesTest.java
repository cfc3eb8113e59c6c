/** The edges of promises 11 to 14: each test holds the class to the words of the document that it names. */
public final class CutsEdgesTest {
    private static final int BAD = LetteredRock.BAD, NOT = LetteredRock.NOT, NONE = LetteredRock.NONE;
    private static final int NULL = -11;
    private static final int MIN = Integer.MIN_VALUE, MAX = Integer.MAX_VALUE;
    private static final Check check = new Check();

    public static void main(String[] args) {
        cutBeginsAtSlotZero();
        cutHasGapsBehindEachLetter();
        cutIsEmptyBehind();
        cutNeedsALetter();
        cutNeedsRoom();
        cutTurns();
        cutLooks();
        cutPlaces();
        cutWords();
        cutGoesRound();
        cutMirroredGoesRound();
        cutUpsideDown();
        cutMirroredAndUpsideDown();
        cutIsBadAheadOfNot();
        readingsOfWordsThatFit();
        readingsOnlyOfPlacesThatAre();
        readingsWhereThereIsAnItem();
        readingsOfLostItems();
        readingsOfWrappedBytes();
        readingsCountEachLook();
        readingsAtMost();
        readingsRefused();
        readingNumbers();
        readingOrder();
        readingThatIsNot();
        readingIsBadAheadOfNull();
        wordsAsBits();
        wordsOfOneReading();
        wordsRefused();
        check.end();
    }

    /** Letter 0 has the strips 1 .. 5, letter 1 the strip 16. */
    private static LetteredRock withLetters() {
        LetteredRock x = new LetteredRock();
        x.letter(5, 1, 1);
        x.letter(1, 1, 1);
        for (int i = 0; i < 5; i++) {
            x.strip(0, i, i + 1);
        }
        x.strip(1, 0, 16);
        return x;
    }

    private static LetteredRock withWord(int word, int... letters) {
        LetteredRock x = withLetters();
        spell(x, word, letters);
        return x;
    }

    private static void spell(LetteredRock x, int word, int... letters) {
        for (int letter : letters) {
            x.spell(word, letter);
        }
    }

    private static void fill(LetteredRock x, int s, int form, int... row) {
        x.sheet(s, form, row.length);
        for (int i = 0; i < row.length; i++) {
            x.put(s, form, i, row[i]);
        }
    }

    private static void cutRow(LetteredRock x, int word, int turn, int look, int... want) {
        check.row("cut(" + word + ", " + turn + ", " + look + ", ?)", i -> x.cut(word, turn, look, i), want);
    }

    private static void cutBeginsAtSlotZero() {
        check.sentence(11, "from SLOT 0 on the STRIPS of each LETTER");
        LetteredRock x = withWord(0, 0);
        x.gap(0);
        x.slots(5);
        cutRow(x, 0, 0, 0, 1, 2, 3, 4, 5);
    }

    private static void cutHasGapsBehindEachLetter() {
        check.sentence(11, "behind each LETTER GAP (0 to 3; 1 at first) empty strips (0)");
        LetteredRock x = withWord(0, 1, 1);
        x.slots(8);
        cutRow(x, 0, 0, 0, 16, 0, 16, 0, 0, 0, 0, 0);
        x.gap(0);
        cutRow(x, 0, 0, 0, 16, 16, 0, 0, 0, 0, 0, 0);
        x.gap(3);
        cutRow(x, 0, 0, 0, 16, 0, 0, 0, 16, 0, 0, 0);
    }

    private static void cutIsEmptyBehind() {
        check.sentence(11, "all SLOTS behind are empty (0)");
        LetteredRock x = withWord(0, 0, 0, 0, 0, 0, 0, 0, 0, 0, 0);
        spell(x, 1, 1);
        x.slots(60);
        check.due("the last strip of the widest word", x.cut(0, 0, 0, 58), 5);
        for (int i = 1; i < 60; i++) {
            check.due("cut(1, 0, 0, " + i + ")", x.cut(1, 0, 0, i), 0);
        }
    }

    private static void cutNeedsALetter() {
        check.sentence(11, "It FITS, if it has a LETTER");
        LetteredRock x = withLetters();
        check.due("an empty word", x.cut(7, 0, 0, 0), NOT);
        x.spell(7, 1);
        check.due("a word of one letter", x.cut(7, 0, 0, 0), 16);
        x.wipe(7);
        check.due("a wiped word", x.cut(7, 0, 0, 0), NOT);
    }

    private static void cutNeedsRoom() {
        check.sentence(11, "all this is at most S wide");
        LetteredRock x = withWord(0, 0, 1);
        x.slots(8);
        check.due("8 wide in 8 slots", x.cut(0, 0, 0, 0), 1);
        x.slots(7);
        check.due("8 wide in 7 slots", x.cut(0, 0, 0, 0), NOT);
        x.slots(60);
        spell(x, 1, 0, 0, 0, 0, 0, 0, 0, 0, 0, 0);
        check.due("60 wide in 60 slots", x.cut(1, 0, 0, 0), 1);
        x.gap(2);
        check.due("70 wide in 60 slots", x.cut(1, 0, 0, 0), NOT);
    }

    private static void cutTurns() {
        check.sentence(11, "a TURN r (0 to S - 1)");
        LetteredRock x = withWord(0, 1);
        x.slots(5);
        check.due("cut(0, 4, 0, 1)", x.cut(0, 4, 0, 1), 16);
        check.each("cut(0, ?, 0, 0)", r -> x.cut(0, r, 0, 0), BAD, -1, 5, 6, MIN, MAX);
        x.slots(60);
        check.due("cut(0, 59, 0, 1)", x.cut(0, 59, 0, 1), 16);
        check.each("cut(0, ?, 0, 0)", r -> x.cut(0, r, 0, 0), BAD, -1, 60, MIN, MAX);
    }

    private static void cutLooks() {
        check.sentence(11, "a LOOK m (0 to 3)");
        LetteredRock x = withWord(0, 1);
        check.row("cut(0, 0, ?, 0)", m -> x.cut(0, 0, m, 0), 16, 16, 1, 1);
        check.each("cut(0, 0, ?, 0)", m -> x.cut(0, 0, m, 0), BAD, -1, 4, MIN, MAX);
    }

    private static void cutPlaces() {
        check.sentence(11, "i 0 to S - 1");
        LetteredRock x = withWord(0, 1);
        x.slots(5);
        check.due("cut(0, 1, 0, 4)", x.cut(0, 1, 0, 4), 16);
        check.each("cut(0, 0, 0, ?)", i -> x.cut(0, 0, 0, i), BAD, -1, 5, 6, MIN, MAX);
        x.slots(60);
        check.due("cut(0, 1, 0, 59)", x.cut(0, 1, 0, 59), 16);
        check.each("cut(0, 0, 0, ?)", i -> x.cut(0, 0, 0, i), BAD, -1, 60, MIN, MAX);
    }

    private static void cutWords() {
        check.sentence(11, "BAD: the WORD, TURN, LOOK");
        LetteredRock x = withWord(0, 1);
        x.spell(7, 1);
        check.each("cut(?, 0, 0, 0)", w -> x.cut(w, 0, 0, 0), 16, 0, 7);
        check.each("cut(?, 0, 0, 0)", w -> x.cut(w, 0, 0, 0), BAD, -1, 8, MIN, MAX);
    }

    private static void cutGoesRound() {
        check.sentence(11, "at place i is the strip of SLOT i and r (round)");
        LetteredRock x = withWord(0, 0);
        x.slots(6);
        cutRow(x, 0, 0, 0, 1, 2, 3, 4, 5, 0);
        cutRow(x, 0, 1, 0, 2, 3, 4, 5, 0, 1);
        cutRow(x, 0, 5, 0, 0, 1, 2, 3, 4, 5);
        x.slots(60);
        check.due("slot 59 and 59, round", x.cut(0, 59, 0, 59), 0);
        check.due("slot 59 and 5, round", x.cut(0, 59, 0, 5), 5);
        check.due("slot 1 and 59, round", x.cut(0, 1, 0, 59), 1);
    }

    private static void cutMirroredGoesRound() {
        check.sentence(11, "by m bit 0 that of SLOT r less i (round) instead (mirrored)");
        LetteredRock x = withWord(0, 0);
        x.slots(6);
        cutRow(x, 0, 0, 1, 1, 0, 5, 4, 3, 2);
        cutRow(x, 0, 4, 1, 5, 4, 3, 2, 1, 0);
        cutRow(x, 0, 5, 1, 0, 5, 4, 3, 2, 1);
        x.slots(60);
        check.due("slot 0 less 59, round", x.cut(0, 0, 1, 59), 2);
        check.due("slot 59 less 59", x.cut(0, 59, 1, 59), 1);
        check.due("slot 0 less 1, round", x.cut(0, 0, 1, 1), 0);
    }

    private static void cutUpsideDown() {
        check.sentence(11, "by m bit 1 each strip is upside down (its lowest bit becomes its highest, and so on)");
        int[] flipped = {0, 16, 8, 24, 4, 20, 12, 28, 2, 18, 10, 26, 6, 22, 14, 30,
            1, 17, 9, 25, 5, 21, 13, 29, 3, 19, 11, 27, 7, 23, 15, 31};
        LetteredRock x = withWord(0, 1);
        for (int strip = 0; strip < 32; strip++) {
            x.strip(1, 0, strip);
            check.due("strip " + strip + " upside down", x.cut(0, 0, 2, 0), flipped[strip]);
            check.due("strip " + strip + " as it is", x.cut(0, 0, 0, 0), strip);
        }
    }

    private static void cutMirroredAndUpsideDown() {
        check.sentence(11, "a LOOK m (0 to 3)");
        LetteredRock x = withWord(0, 0);
        x.slots(6);
        cutRow(x, 0, 0, 2, 16, 8, 24, 4, 20, 0);
        cutRow(x, 0, 0, 3, 16, 0, 20, 4, 24, 8);
        cutRow(x, 0, 5, 3, 0, 20, 4, 24, 8, 16);
    }

    private static void cutIsBadAheadOfNot() {
        check.sentence(11, "NOT: it does not FIT.");
        LetteredRock x = withLetters();
        check.due("an empty word, all else well", x.cut(0, 29, 3, 29), NOT);
        check.due("and a turn too far", x.cut(0, 30, 3, 29), BAD);
        check.due("and a look too far", x.cut(0, 29, 4, 29), BAD);
        check.due("and a place too far", x.cut(0, 29, 3, 30), BAD);
    }

    private static void readingsOfWordsThatFit() {
        check.sentence(12, "(WORDS that FIT)");
        LetteredRock x = withWord(0, 0);
        x.sheet(0, 0, 0);
        x.slots(5);
        check.due("6 wide in 5 slots", x.readings(0), 0);
        x.slots(6);
        check.due("6 wide in 6 slots", x.readings(0), 24);
        x.wipe(0);
        check.due("no word at all", x.readings(0), 0);
    }

    private static void readingsOnlyOfPlacesThatAre() {
        check.sentence(12, "at each place 0 to S - 1");
        LetteredRock x = withWord(0, 0);
        x.slots(6);
        fill(x, 0, 0, 1, 2, 3, 4, 5, 0, 9);
        check.due("9 stands behind the slots", x.readings(0), 1);
        x.put(0, 0, 5, 9);
        check.due("9 stands in the last slot", x.readings(0), 0);
        fill(x, 0, 0, 1, 2, 3, 4, 5, 0, 9);
        x.slots(7);
        check.due("one slot more", x.readings(0), 0);
    }

    private static void readingsWhereThereIsAnItem() {
        check.sentence(12, "what item i of the SHEET is, where there is one");
        LetteredRock x = withWord(0, 0);
        x.slots(60);
        fill(x, 0, 2);
        check.due("no items", x.readings(0), 240);
        fill(x, 0, 2, 1);
        check.due("one item: 1, as it is and mirrored", x.readings(0), 2);
        fill(x, 0, 2, 0);
        check.due("one item: any of 55 empty slots, 4 looks", x.readings(0), 220);
        fill(x, 0, 2, 1, 2);
        check.due("two items", x.readings(0), 1);
    }

    private static void readingsOfLostItems() {
        check.sentence(12, "it is 0 to 31 (others are LOST)");
        LetteredRock x = withWord(0, 0);
        x.slots(6);
        fill(x, 0, 2, 0);
        check.each("readings with the item ?", v -> afterPut(x, v), 24, -1, 32, 255, MIN, MAX);
        check.due("readings with the item 0", afterPut(x, 0), 4);
        check.due("readings with the item 31", afterPut(x, 31), 0);
        x.strip(0, 0, 31);
        check.due("readings with the item 31, which the word has", afterPut(x, 31), 4);
    }

    private static int afterPut(LetteredRock x, int v) {
        x.put(0, 2, 0, v);
        return x.readings(0);
    }

    private static void readingsOfWrappedBytes() {
        check.sentence(12, "0 to 31 (others are LOST)");
        LetteredRock x = withWord(0, 0);
        x.slots(6);
        fill(x, 0, 0, 255);
        fill(x, 1, 0, 256 + 2);
        fill(x, 2, 1, 65535);
        fill(x, 3, 1, 65536 + 2);
        check.due("255 as a byte is below 0", x.readings(0), 24);
        check.due("258 as a byte is 2, as it is and mirrored", x.readings(1), 2);
        check.due("65535 as a short is below 0", x.readings(2), 24);
        check.due("65538 as a short is 2", x.readings(3), 2);
    }

    private static void readingsCountEachLook() {
        check.sentence(12, "all WORD, TURN, LOOK");
        LetteredRock x = withWord(0, 1);
        x.strip(1, 0, 4);
        x.slots(5);
        fill(x, 0, 0, 4, 0, 0, 0, 0);
        check.due("a cut that is alike in all looks", x.readings(0), 4);
        x.strip(1, 0, 0);
        fill(x, 0, 0, 0, 0, 0, 0, 0);
        check.due("a cut that is empty all round", x.readings(0), 20);
    }

    private static void readingsAtMost() {
        check.sentence(12, "How many READINGS.");
        LetteredRock x = withLetters();
        for (int word = 0; word < 8; word++) {
            x.spell(word, 1);
        }
        x.slots(60);
        x.sheet(3, 1, 60);
        check.due("60 empty items fit to no cut", x.readings(3), 0);
        x.strip(1, 0, 0);
        check.due("8 words, 4 looks, 60 turns", x.readings(3), 1920);
    }

    private static void readingsRefused() {
        check.sentence(12, "BAD; NULL.");
        LetteredRock x = withWord(0, 1);
        check.each("readings(?)", x::readings, BAD, -1, 4, MIN, MAX);
        check.due("BAD is no finding", x.count(6), 0);
        check.each("readings(?)", x::readings, NULL, 0, 1, 2, 3);
        check.due("NULL is told", x.count(6), 1);
        x.sheet(0, 0, 0);
        check.due("a sheet of no items is not lost", x.readings(0), 120);
        x.lose(0);
        check.due("it is lost", x.readings(0), NULL);
    }

    private static void readingNumbers() {
        check.sentence(13, "1000 times the WORD and 100 times the LOOK and the TURN");
        LetteredRock x = withWord(0, 1);
        x.spell(7, 1);
        x.slots(60);
        x.sheet(0, 0, 0);
        check.due("the first", x.reading(0, 0), 0);
        check.due("the last turn", x.reading(0, 59), 59);
        check.due("the last of word 0", x.reading(0, 239), 359);
        check.due("the first of word 7", x.reading(0, 240), 7000);
        check.due("the last", x.reading(0, 479), 7359);
    }

    private static void readingOrder() {
        check.sentence(13, "in order of WORD, then LOOK, then TURN");
        LetteredRock x = withWord(3, 1);
        spell(x, 5, 1, 1);
        x.strip(1, 0, 4);
        x.slots(5);
        fill(x, 1, 0, -1, 4);
        int[] want = {3004, 3101, 3204, 3301, 5001, 5004, 5101, 5103, 5201, 5204, 5301, 5303};
        check.row("reading(1, ?)", i -> x.reading(1, i), want);
        check.due("readings(1)", x.readings(1), want.length);
    }

    private static void readingThatIsNot() {
        check.sentence(13, "NONE: there is no such one.");
        LetteredRock x = withWord(0, 1);
        x.sheet(0, 0, 0);
        check.due("the last", x.reading(0, 119), 329);
        check.each("reading(0, ?)", i -> x.reading(0, i), NONE, 120, 121, MAX);
        x.wipe(0);
        check.each("reading(0, ?)", i -> x.reading(0, i), NONE, 0, 1, MAX);
    }

    private static void readingIsBadAheadOfNull() {
        check.sentence(13, "BAD: also i below 0; NULL.");
        LetteredRock x = withWord(0, 1);
        check.each("reading(?, 0)", s -> x.reading(s, 0), BAD, -1, 4, MIN, MAX);
        check.each("reading(0, ?) of a lost sheet", i -> x.reading(0, i), BAD, -1, MIN);
        check.due("BAD is no finding", x.count(6), 0);
        check.each("reading(0, ?) of a lost sheet", i -> x.reading(0, i), NULL, 0, 1, MAX);
        check.due("NULL is told", x.count(6), 1);
        x.sheet(0, 0, 0);
        check.each("reading(0, ?)", i -> x.reading(0, i), BAD, -1, MIN);
    }

    private static void wordsAsBits() {
        check.sentence(14, "The WORDS that have a READING, as bits.");
        LetteredRock x = withLetters();
        fill(x, 0, 0, 16);
        check.due("no word", x.words(0), 0);
        x.spell(7, 1);
        check.due("word 7 alone", x.words(0), 128);
        x.spell(0, 1);
        check.due("words 0 and 7", x.words(0), 129);
        for (int word = 1; word < 7; word++) {
            x.spell(word, 1);
        }
        check.due("all words", x.words(0), 255);
        spell(x, 0, 0, 0, 0, 0, 0);
        check.due("word 0 does not fit any more", x.words(0), 254);
        x.put(0, 0, 0, 31);
        check.due("a strip that no word has", x.words(0), 0);
    }

    private static void wordsOfOneReading() {
        check.sentence(14, "The WORDS that have a READING, as bits.");
        LetteredRock x = withWord(2, 0);
        spell(x, 5, 0, 1);
        x.slots(8);
        fill(x, 0, 0, 1, 2, 3, 4, 5, 0, 16, 0);
        check.due("one reading of word 5 alone", x.readings(0), 1);
        check.due("words(0)", x.words(0), 32);
        x.put(0, 0, 6, 0);
        check.due("one reading of word 2 alone", x.readings(0), 1);
        check.due("words(0)", x.words(0), 4);
        x.put(0, 0, 6, -1);
        check.due("that strip being lost, one of each", x.readings(0), 2);
        check.due("words(0)", x.words(0), 36);
    }

    private static void wordsRefused() {
        check.sentence(14, "BAD; NULL.");
        LetteredRock x = withWord(0, 1);
        check.each("words(?)", x::words, BAD, -1, 4, MIN, MAX);
        check.due("BAD is no finding", x.count(6), 0);
        check.each("words(?)", x::words, NULL, 0, 1, 2, 3);
        check.due("NULL is told", x.count(6), 1);
        x.sheet(3, 2, 0);
        check.due("a sheet of no items is not lost", x.words(3), 1);
    }
}
