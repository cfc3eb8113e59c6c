/** The edges of promises 1 to 10: each test holds the class to the words of the document that it names. */
public final class LettersEdgesTest {
    private static final int BAD = LetteredRock.BAD, NOT = LetteredRock.NOT, FULL = LetteredRock.FULL;
    private static final int NONE = LetteredRock.NONE, NULL = -11;
    private static final int MIN = Integer.MIN_VALUE, MAX = Integer.MAX_VALUE;
    private static final Check check = new Check();

    public static void main(String[] args) {
        newHasNoLettersNorLumps();
        newHasEmptyWords();
        newHasLostSheets();
        letterBeginsAtZeroWithEmptyStrips();
        letterAtMostSixteen();
        letterWidth();
        letterMinutes();
        letterSoft();
        letterIsBadAheadOfFull();
        stripAnswersWhatItWas();
        stripOnlyWithinTheWidth();
        stripHasFiveBits();
        stripOfNoLetter();
        aboutWhat();
        aboutStripsWithinTheWidth();
        aboutNoLetter();
        spellUpToTen();
        spellBehindWipe();
        spellWordsAndLettersThatAre();
        spellIsBadAheadOfFull();
        wipeAnswersHowManyItHad();
        wipeWordsThatAre();
        slotsFrom5To60();
        gapFrom0To3();
        wideOfEmptyWords();
        wideCountsTheLastGapToo();
        wideMayBeMoreThanTheSlots();
        wideWordsThatAre();
        longestMustHaveALetter();
        longestMustFit();
        longestHasTheMostLetters();
        longestOfLikeOnesTheWidest();
        longestThenTheLeastNumber();
        check.end();
    }

    /** Letters of the widths told, words empty. */
    private static LetteredRock withLetters(int... widths) {
        LetteredRock x = new LetteredRock();
        for (int width : widths) {
            x.letter(width, 1, 1);
        }
        return x;
    }

    private static void spell(LetteredRock x, int word, int... letters) {
        for (int letter : letters) {
            x.spell(word, letter);
        }
    }

    private static void newHasNoLettersNorLumps() {
        check.sentence(1, "No LETTERS, LUMPS");
        LetteredRock x = new LetteredRock();
        check.due("count(0)", x.count(0), 0);
        check.due("about(0, 0)", x.about(0, 0), BAD);
        check.due("strip(0, 0, 0)", x.strip(0, 0, 0), BAD);
        check.due("spell(0, 0)", x.spell(0, 0), BAD);
        check.due("count(4)", x.count(4), 0);
        check.due("made(0, 0)", x.made(0, 0), BAD);
        check.due("count(5)", x.count(5), 0);
        check.due("trace(0)", x.trace(0), BAD);
        check.due("count(7)", x.count(7), 0);
    }

    private static void newHasEmptyWords() {
        check.sentence(1, "all WORDS are empty");
        LetteredRock x = new LetteredRock();
        check.row("wide(?)", x::wide, 0, 0, 0, 0, 0, 0, 0, 0);
        check.row("late(?)", x::late, 0, 0, 0, 0, 0, 0, 0, 0);
        check.row("spoiled(?)", x::spoiled, 0, 0, 0, 0, 0, 0, 0, 0);
        check.each("order(?, 0)", w -> x.order(w, 0), BAD, 0, 1, 2, 3, 4, 5, 6, 7);
        check.each("cut(?, 0, 0, 0)", w -> x.cut(w, 0, 0, 0), NOT, 0, 1, 2, 3, 4, 5, 6, 7);
        check.each("lump(?, 0, 0, 1)", w -> x.lump(w, 0, 0, 1), NOT, 0, 1, 2, 3, 4, 5, 6, 7);
        check.row("wipe(?)", x::wipe, 0, 0, 0, 0, 0, 0, 0, 0);
        check.due("longest()", x.longest(), NONE);
        check.due("count(1)", x.count(1), 0);
    }

    private static void newHasLostSheets() {
        check.sentence(1, "all SHEETS LOST");
        LetteredRock x = new LetteredRock();
        check.each("readings(?)", x::readings, NULL, 0, 1, 2, 3);
        check.each("reading(?, 0)", s -> x.reading(s, 0), NULL, 0, 1, 2, 3);
        check.each("words(?)", x::words, NULL, 0, 1, 2, 3);
        check.each("put(?, 0, 0, 0)", s -> x.put(s, 0, 0, 0), NULL, 0, 1, 2, 3);
        check.each("get(?, 0, 0)", s -> x.get(s, 0, 0), MIN, 0, 1, 2, 3);
        check.each("copy(?, 0, ?, 0, 0)", s -> x.copy(s, 0, s, 0, 0), NULL, 0, 1, 2, 3);
        check.each("lose(?)", x::lose, NULL, 0, 1, 2, 3);
    }

    private static void letterBeginsAtZeroWithEmptyStrips() {
        check.sentence(2, "A LETTER more, all its STRIPS 0: its number.");
        LetteredRock x = new LetteredRock();
        check.due("the first letter(5, 1, 1)", x.letter(5, 1, 1), 0);
        check.row("about(0, 10 + ?)", i -> x.about(0, 10 + i), 0, 0, 0, 0, 0);
        x.strip(0, 0, 31);
        check.due("the second letter(5, 1, 1)", x.letter(5, 1, 1), 1);
        check.row("about(1, 10 + ?)", i -> x.about(1, 10 + i), 0, 0, 0, 0, 0);
    }

    private static void letterAtMostSixteen() {
        check.sentence(2, "15 (16 at most)");
        LetteredRock x = new LetteredRock();
        check.row("letter ?", i -> x.letter(1, 1, 1), 0, 1, 2, 3, 4, 5, 6, 7, 8, 9, 10, 11, 12, 13, 14, 15);
        check.due("letter 16", x.letter(1, 1, 1), FULL);
        check.due("letter 16 again", x.letter(5, 9, 99), FULL);
        check.due("count(0)", x.count(0), 16);
        check.due("about(15, 0)", x.about(15, 0), 1);
        check.due("about(16, 0)", x.about(16, 0), BAD);
    }

    private static void letterWidth() {
        check.sentence(2, "WIDTH (1 to 5)");
        LetteredRock x = new LetteredRock();
        check.each("letter(?, 1, 1)", v -> x.letter(v, 1, 1), BAD, 0, 6, -1, MIN, MAX);
        check.due("letter(1, 1, 1)", x.letter(1, 1, 1), 0);
        check.due("letter(5, 1, 1)", x.letter(5, 1, 1), 1);
        check.row("about(?, 0)", n -> x.about(n, 0), 1, 5);
    }

    private static void letterMinutes() {
        check.sentence(2, "MINUTES (1 to 9)");
        LetteredRock x = new LetteredRock();
        check.each("letter(1, ?, 1)", v -> x.letter(1, v, 1), BAD, 0, 10, -1, MIN, MAX);
        check.due("letter(1, 1, 1)", x.letter(1, 1, 1), 0);
        check.due("letter(1, 9, 1)", x.letter(1, 9, 1), 1);
        check.row("about(?, 1)", n -> x.about(n, 1), 1, 9);
    }

    private static void letterSoft() {
        check.sentence(2, "SOFT (1 to 99)");
        LetteredRock x = new LetteredRock();
        check.each("letter(1, 1, ?)", v -> x.letter(1, 1, v), BAD, 0, 100, -1, MIN, MAX);
        check.due("letter(1, 1, 1)", x.letter(1, 1, 1), 0);
        check.due("letter(1, 1, 99)", x.letter(1, 1, 99), 1);
        check.row("about(?, 2)", n -> x.about(n, 2), 1, 99);
    }

    private static void letterIsBadAheadOfFull() {
        check.sentence(2, "BAD; FULL.");
        LetteredRock x = withLetters(1, 1, 1, 1, 1, 1, 1, 1, 1, 1, 1, 1, 1, 1, 1, 1);
        check.due("letter(0, 1, 1)", x.letter(0, 1, 1), BAD);
        check.due("letter(1, 10, 1)", x.letter(1, 10, 1), BAD);
        check.due("letter(1, 1, 100)", x.letter(1, 1, 100), BAD);
        check.due("letter(1, 1, 1)", x.letter(1, 1, 1), FULL);
    }

    private static void stripAnswersWhatItWas() {
        check.sentence(3, "STRIP i of a LETTER: what it was.");
        LetteredRock x = withLetters(2);
        check.due("strip(0, 1, 31), of a new letter", x.strip(0, 1, 31), 0);
        check.due("strip(0, 1, 31), the same again", x.strip(0, 1, 31), 31);
        check.due("strip(0, 1, 0)", x.strip(0, 1, 0), 31);
        check.due("strip(0, 1, 7)", x.strip(0, 1, 7), 0);
        check.due("the other strip", x.strip(0, 0, 7), 0);
    }

    private static void stripOnlyWithinTheWidth() {
        check.sentence(3, "STRIPS (that many numbers");
        LetteredRock x = withLetters(1, 2, 3, 4, 5);
        for (int letter = 0; letter < 5; letter++) {
            int it = letter;
            check.due("the last strip of letter " + it, x.strip(it, it, 1), 0);
            check.each("strip(" + it + ", ?, 1)", i -> x.strip(it, i, 1), BAD, -1, it + 1, 5, MIN, MAX);
        }
    }

    private static void stripHasFiveBits() {
        check.sentence(3, "of 5 bits, 0 to 31)");
        LetteredRock x = withLetters(1);
        check.due("strip(0, 0, 31)", x.strip(0, 0, 31), 0);
        check.each("strip(0, 0, ?)", v -> x.strip(0, 0, v), BAD, -1, 32, 63, MIN, MAX);
        check.due("strip(0, 0, 0)", x.strip(0, 0, 0), 31);
        check.due("about(0, 10)", x.about(0, 10), 0);
    }

    private static void stripOfNoLetter() {
        check.sentence(3, "BAD.");
        LetteredRock x = withLetters(5, 5);
        check.each("strip(?, 0, 0)", n -> x.strip(n, 0, 0), BAD, -1, 2, 15, 16, MIN, MAX);
    }

    private static void aboutWhat() {
        check.sentence(4, "0 WIDTH, 1 MINUTES, 2 SOFT");
        LetteredRock x = new LetteredRock();
        x.letter(5, 9, 99);
        check.row("about(0, ?)", what -> x.about(0, what), 5, 9, 99);
        check.each("about(0, ?)", what -> x.about(0, what), BAD, -1, 3, 4, 5, 6, 7, 8, 9, MIN, MAX);
    }

    private static void aboutStripsWithinTheWidth() {
        check.sentence(4, "10 + i STRIP i");
        LetteredRock x = withLetters(1, 2, 3, 4, 5);
        for (int letter = 0; letter < 5; letter++) {
            int it = letter;
            x.strip(it, 0, 30);
            x.strip(it, it, 20 + it);
            check.due("about(" + it + ", 10)", x.about(it, 10), it == 0 ? 20 : 30);
            check.due("its last strip", x.about(it, 10 + it), 20 + it);
            check.each("about(" + it + ", ?)", what -> x.about(it, what), BAD, 9, 11 + it, 15, MIN + 10, MAX);
        }
    }

    private static void aboutNoLetter() {
        check.sentence(4, "BAD.");
        LetteredRock x = withLetters(5, 5);
        check.each("about(?, 0)", n -> x.about(n, 0), BAD, -1, 2, 15, 16, MIN, MAX);
        check.each("about(?, 10)", n -> x.about(n, 10), BAD, -1, 2, 15, 16, MIN, MAX);
    }

    private static void spellUpToTen() {
        check.sentence(5, "rows of up to 10 LETTERS");
        LetteredRock x = withLetters(1);
        for (int word = 0; word < 8; word++) {
            int it = word;
            check.row("spell(" + it + ", 0) behind ?", n -> x.spell(it, 0), 1, 2, 3, 4, 5, 6, 7, 8, 9, 10);
            check.due("an eleventh in word " + it, x.spell(it, 0), FULL);
            check.due("wide(" + it + ")", x.wide(it), 20);
        }
    }

    private static void spellBehindWipe() {
        check.sentence(5, "A LETTER comes behind a WORD: how many it has.");
        LetteredRock x = withLetters(1);
        check.row("spell(3, 0) behind ?", n -> x.spell(3, 0), 1, 2, 3, 4, 5, 6, 7, 8, 9, 10);
        x.wipe(3);
        check.row("spell(3, 0) behind wipe and ?", n -> x.spell(3, 0), 1, 2, 3, 4, 5, 6, 7, 8, 9, 10);
        check.due("an eleventh", x.spell(3, 0), FULL);
    }

    private static void spellWordsAndLettersThatAre() {
        check.sentence(5, "WORDS 0 .. 7");
        LetteredRock x = withLetters(1, 1);
        check.each("spell(?, 0)", w -> x.spell(w, 0), BAD, -1, 8, MIN, MAX);
        check.each("spell(0, ?)", n -> x.spell(0, n), BAD, -1, 2, 15, 16, MIN, MAX);
        check.due("spell(0, 0)", x.spell(0, 0), 1);
        check.due("spell(7, 1)", x.spell(7, 1), 1);
    }

    private static void spellIsBadAheadOfFull() {
        check.sentence(5, "BAD; FULL.");
        LetteredRock x = withLetters(1);
        spell(x, 0, 0, 0, 0, 0, 0, 0, 0, 0, 0, 0);
        check.due("no letter 1, behind a full word", x.spell(0, 1), BAD);
        check.due("letter 0, behind a full word", x.spell(0, 0), FULL);
    }

    private static void wipeAnswersHowManyItHad() {
        check.sentence(6, "A WORD is empty: how many LETTERS it had.");
        LetteredRock x = withLetters(1);
        spell(x, 0, 0, 0, 0, 0, 0, 0, 0, 0, 0, 0);
        spell(x, 1, 0);
        check.due("wipe of a full word", x.wipe(0), 10);
        check.due("wipe of an empty word", x.wipe(0), 0);
        check.due("wide behind wipe", x.wide(0), 0);
        check.due("order behind wipe", x.order(0, 0), BAD);
        check.due("another word stays", x.wide(1), 2);
    }

    private static void wipeWordsThatAre() {
        check.sentence(6, "BAD.");
        LetteredRock x = withLetters(1);
        spell(x, 0, 0);
        spell(x, 7, 0);
        check.each("wipe(?)", x::wipe, BAD, -1, 8, MIN, MAX);
        check.each("wipe(?)", x::wipe, 1, 0, 7);
    }

    private static void slotsFrom5To60() {
        check.sentence(7, "S SLOTS round (5 to 60; 30 at first)");
        LetteredRock x = new LetteredRock();
        check.each("slots(?)", x::slots, BAD, 4, 61, 0, -1, MIN, MAX);
        check.due("slots(5)", x.slots(5), 30);
        check.due("slots(60)", x.slots(60), 5);
        check.each("slots(?)", x::slots, BAD, 4, 61);
        check.due("slots(60) again", x.slots(60), 60);
        check.due("count(2)", x.count(2), 60);
    }

    private static void gapFrom0To3() {
        check.sentence(8, "GAP (0 to 3; 1 at first)");
        LetteredRock x = new LetteredRock();
        check.each("gap(?)", x::gap, BAD, -1, 4, MIN, MAX);
        check.due("gap(0)", x.gap(0), 1);
        check.due("gap(3)", x.gap(3), 0);
        check.each("gap(?)", x::gap, BAD, -1, 4);
        check.due("gap(3) again", x.gap(3), 3);
        check.due("count(3)", x.count(3), 3);
    }

    private static void wideOfEmptyWords() {
        check.sentence(9, "(0: it is empty)");
        LetteredRock x = withLetters(5);
        x.gap(3);
        check.row("wide(?)", x::wide, 0, 0, 0, 0, 0, 0, 0, 0);
        spell(x, 0, 0);
        x.wipe(0);
        check.due("wide(0) behind wipe", x.wide(0), 0);
    }

    private static void wideCountsTheLastGapToo() {
        check.sentence(9, "behind each LETTER GAP");
        LetteredRock x = withLetters(1, 5);
        spell(x, 0, 0);
        spell(x, 7, 0, 1);
        int[] wide0 = {1, 2, 3, 4};
        int[] wide7 = {6, 8, 10, 12};
        for (int g = 0; g < 4; g++) {
            x.gap(g);
            check.due("wide(0) with gap " + g, x.wide(0), wide0[g]);
            check.due("wide(7) with gap " + g, x.wide(7), wide7[g]);
        }
    }

    private static void wideMayBeMoreThanTheSlots() {
        check.sentence(9, "How wide a WORD is, with GAPS");
        LetteredRock x = withLetters(5);
        spell(x, 0, 0, 0, 0, 0, 0, 0, 0, 0, 0, 0);
        x.gap(3);
        x.slots(5);
        check.due("the widest word on the least slots", x.wide(0), 80);
    }

    private static void wideWordsThatAre() {
        check.sentence(9, "BAD.");
        LetteredRock x = new LetteredRock();
        check.each("wide(?)", x::wide, BAD, -1, 8, MIN, MAX);
    }

    private static void longestMustHaveALetter() {
        check.sentence(10, "It FITS, if it has a LETTER");
        LetteredRock x = withLetters(1);
        check.due("longest() of empty words", x.longest(), NONE);
        spell(x, 7, 0);
        check.due("longest() of one letter", x.longest(), 7);
        x.wipe(7);
        check.due("longest() behind wipe", x.longest(), NONE);
    }

    private static void longestMustFit() {
        check.sentence(10, "all this is at most S wide");
        LetteredRock x = withLetters(5);
        spell(x, 4, 0);
        x.slots(6);
        check.due("5 and a gap of 1 in 6 slots", x.longest(), 4);
        x.slots(5);
        check.due("5 and a gap of 1 in 5 slots", x.longest(), NONE);
        x.gap(0);
        check.due("5 without a gap in 5 slots", x.longest(), 4);
        x.slots(60);
        spell(x, 4, 0, 0, 0, 0, 0, 0, 0, 0, 0);
        x.gap(1);
        check.due("60 wide in 60 slots", x.longest(), 4);
        x.slots(59);
        check.due("60 wide in 59 slots", x.longest(), NONE);
    }

    private static void longestHasTheMostLetters() {
        check.sentence(10, "The WORD that FITS with the most LETTERS");
        LetteredRock x = withLetters(1, 5);
        x.gap(0);
        spell(x, 0, 1);
        spell(x, 1, 0, 0);
        check.due("two narrow letters ahead of a wide one", x.longest(), 1);
        spell(x, 2, 1, 1, 1);
        x.slots(14);
        check.due("three that do not fit are left out", x.longest(), 1);
        x.slots(15);
        check.due("three that just fit", x.longest(), 2);
    }

    private static void longestOfLikeOnesTheWidest() {
        check.sentence(10, "of like ones the widest");
        LetteredRock x = withLetters(1, 2, 3);
        spell(x, 0, 0, 1);
        spell(x, 3, 1, 1);
        spell(x, 5, 0, 1);
        check.due("as many letters, one strip wider", x.longest(), 3);
        spell(x, 7, 2, 1);
        check.due("and one strip more", x.longest(), 7);
    }

    private static void longestThenTheLeastNumber() {
        check.sentence(10, "then the least number; NONE.");
        LetteredRock x = withLetters(1, 2);
        spell(x, 7, 0, 1);
        spell(x, 6, 1, 0);
        check.due("words 6 and 7 alike", x.longest(), 6);
        spell(x, 0, 0, 1);
        check.due("words 0, 6 and 7 alike", x.longest(), 0);
        x.slots(5);
        x.gap(2);
        check.due("none fits", x.longest(), NONE);
    }
}
