/** The edges of promises 18 to 22: each test holds the class to the words of the document that it names. */
public final class LumpsEdgesTest {
    private static final int BAD = LetteredRock.BAD, NOT = LetteredRock.NOT, FULL = LetteredRock.FULL;
    private static final int NONE = LetteredRock.NONE;
    private static final int DRAW = 0, TRIM = 1, STICK = 2, SOFTENS = 3;
    private static final int MIN = Integer.MIN_VALUE, MAX = Integer.MAX_VALUE;
    private static final Check check = new Check();

    public static void main(String[] args) {
        setDraw();
        setTrim();
        setStick();
        setSoftens();
        setWhatThereIs();
        lumpNeedsALetter();
        lumpNeedsRoom();
        lumpHands();
        lumpDays();
        lumpNotAheadOfTheLatestDay();
        refusedLumpsHaveNoDay();
        lumpLengths();
        lumpWords();
        trimIsCutOffAtBothEnds();
        sticksAsManyAsGo();
        nothingIsLeftBehindTheTrim();
        theMostSticks();
        theRestAndTheEndsAreScrap();
        lumpsFortyAtMost();
        lumpIsBadAheadOfNotAheadOfFull();
        madeWhat();
        madeLumpsThatAre();
        madeFirstStick();
        madeStaysAsItWas();
        traceFromZero();
        traceOverLumpsWithoutSticks();
        traceSticksThatAre();
        recallHands();
        recallAnyHand();
        recallDays();
        recallFromAndToAreIn();
        recallOfNothing();
        check.end();
    }

    /** Word 0 has one letter, 5 wide with its gap. */
    private static LetteredRock withWord() {
        LetteredRock x = new LetteredRock();
        x.letter(4, 1, 1);
        x.spell(0, 0);
        return x;
    }

    private static LetteredRock drawing(int draw, int trim, int stick) {
        LetteredRock x = withWord();
        x.set(DRAW, draw);
        x.set(TRIM, trim);
        x.set(STICK, stick);
        return x;
    }

    /** Makes one lump and asks for what it gave. */
    private static void gives(LetteredRock x, int length, int sticks, int scrap) {
        int number = x.count(4);
        String call = "lump " + number + " of length " + length;
        check.due(call, x.lump(0, 0, 0, length), sticks);
        check.due("the sticks of " + call, x.made(number, 4), sticks);
        check.due("the scrap of " + call, x.made(number, 5), scrap);
    }

    private static void setting(int what, int first, int least, int most) {
        LetteredRock x = new LetteredRock();
        check.each("set(" + what + ", ?)", v -> x.set(what, v), BAD, least - 1, most + 1, -1, MIN, MAX);
        check.due("set(" + what + ", " + least + ")", x.set(what, least), first);
        check.due("set(" + what + ", " + most + ")", x.set(what, most), least);
        check.each("set(" + what + ", ?)", v -> x.set(what, v), BAD, least - 1, most + 1);
        check.due("set(" + what + ", " + most + ") again", x.set(what, most), most);
    }

    private static void setDraw() {
        check.sentence(18, "DRAW (10 to 200; 100 at first)");
        setting(DRAW, 100, 10, 200);
    }

    private static void setTrim() {
        check.sentence(18, "TRIM (0 to 1000; 10 at first)");
        setting(TRIM, 10, 0, 1000);
    }

    private static void setStick() {
        check.sentence(18, "STICK (1 to 1000; 20 at first)");
        setting(STICK, 20, 1, 1000);
    }

    private static void setSoftens() {
        check.sentence(18, "SOFTENS hundredths (0 to 100; 10 at first; cut)");
        setting(SOFTENS, 10, 0, 100);
    }

    private static void setWhatThereIs() {
        check.sentence(18, "0 DRAW, 1 TRIM, 2 STICK, 3 SOFTENS: what it was. BAD.");
        LetteredRock x = new LetteredRock();
        check.each("set(?, 50)", what -> x.set(what, 50), BAD, -1, 4, MIN, MAX);
        check.row("set(?, 50)", what -> x.set(what, 50), 100, 10, 20, 10);
        check.row("set(?, 60)", what -> x.set(what, 60), 50, 50, 50, 50);
    }

    private static void lumpNeedsALetter() {
        check.sentence(19, "NOT: the WORD does not FIT");
        LetteredRock x = withWord();
        check.each("lump(?, 0, 0, 1) of an empty word", w -> x.lump(w, 0, 0, 1), NOT, 1, 7);
        x.wipe(0);
        check.due("lump of a wiped word", x.lump(0, 0, 0, 1), NOT);
        check.due("count(4)", x.count(4), 0);
    }

    private static void lumpNeedsRoom() {
        check.sentence(19, "A LUMP of a WORD that FITS");
        LetteredRock x = withWord();
        x.slots(5);
        check.due("5 wide in 5 slots", x.lump(0, 0, 0, 1), 4);
        x.gap(2);
        check.due("6 wide in 5 slots", x.lump(0, 0, 0, 1), NOT);
        x.slots(6);
        check.due("6 wide in 6 slots", x.lump(0, 0, 0, 1), 4);
    }

    private static void lumpHands() {
        check.sentence(19, "a HAND (0 to 9)");
        LetteredRock x = withWord();
        check.each("lump(0, ?, 0, 1)", hand -> x.lump(0, hand, 0, 1), BAD, -1, 10, MIN, MAX);
        check.each("lump(0, ?, 0, 1)", hand -> x.lump(0, hand, 0, 1), 4, 0, 9);
        check.row("made(?, 1)", k -> x.made(k, 1), 0, 9);
    }

    private static void lumpDays() {
        check.sentence(19, "a DAY (0 to 999");
        LetteredRock x = withWord();
        check.each("lump(0, 0, ?, 1)", day -> x.lump(0, 0, day, 1), BAD, -1, 1000, MIN, MAX);
        check.each("lump(0, 0, ?, 1)", day -> x.lump(0, 0, day, 1), 4, 0, 999);
        check.row("made(?, 2)", k -> x.made(k, 2), 0, 999);
        LetteredRock y = withWord();
        check.due("the first lump on the last day", y.lump(0, 0, 999, 1), 4);
        check.each("lump(0, 0, ?, 1) behind the last day", day -> y.lump(0, 0, day, 1), BAD, 0, 998, 1000);
        check.due("another on the last day", y.lump(0, 0, 999, 1), 4);
    }

    private static void lumpNotAheadOfTheLatestDay() {
        check.sentence(19, "not ahead of the latest)");
        LetteredRock x = withWord();
        x.lump(0, 0, 500, 1);
        check.each("lump(0, 0, ?, 1) behind day 500", day -> x.lump(0, 0, day, 1), BAD, 499, 0);
        check.due("on the latest day", x.lump(0, 1, 500, 1), 4);
        check.due("a day later", x.lump(0, 0, 501, 1), 4);
        check.due("then a day ahead, by another hand", x.lump(0, 1, 500, 1), BAD);
    }

    private static void refusedLumpsHaveNoDay() {
        check.sentence(19, "not ahead of the latest)");
        LetteredRock x = withWord();
        x.lump(7, 0, 900, 1);
        x.lump(0, 10, 900, 1);
        x.lump(0, 0, 900, 201);
        check.due("day 0 behind refused lumps", x.lump(0, 0, 0, 1), 4);
    }

    private static void lumpLengths() {
        check.sentence(19, "a LENGTH (1 to 200)");
        LetteredRock x = withWord();
        check.each("lump(0, 0, 0, ?)", length -> x.lump(0, 0, 0, length), BAD, 0, 201, -1, MIN, MAX);
        check.due("lump(0, 0, 0, 1)", x.lump(0, 0, 0, 1), 4);
        check.due("lump(0, 0, 0, 200)", x.lump(0, 0, 0, 200), 999);
    }

    private static void lumpWords() {
        check.sentence(19, "WORDS 0 .. 7");
        LetteredRock x = withWord();
        x.spell(7, 0);
        check.each("lump(?, 0, 0, 1)", w -> x.lump(w, 0, 0, 1), BAD, -1, 8, MIN, MAX);
        check.each("lump(?, 0, 0, 1)", w -> x.lump(w, 0, 0, 1), 4, 0, 7);
        check.row("made(?, 0)", k -> x.made(k, 0), 0, 7);
    }

    private static void trimIsCutOffAtBothEnds() {
        check.sentence(19, "cut off at both ends");
        gives(drawing(100, 0, 50), 1, 2, 0);
        gives(drawing(100, 1, 50), 1, 1, 50);
        gives(drawing(100, 25, 50), 1, 1, 50);
        gives(drawing(100, 26, 50), 1, 0, 100);
    }

    private static void sticksAsManyAsGo() {
        check.sentence(19, "as many as go into what is left");
        gives(drawing(100, 10, 79), 1, 1, 21);
        gives(drawing(100, 10, 80), 1, 1, 20);
        gives(drawing(100, 10, 81), 1, 0, 100);
        gives(drawing(100, 10, 40), 1, 2, 20);
        gives(drawing(100, 10, 41), 1, 1, 59);
    }

    private static void nothingIsLeftBehindTheTrim() {
        check.sentence(19, "the rest, and the ends, are SCRAP");
        gives(drawing(10, 5, 1), 1, 0, 10);
        gives(drawing(11, 5, 1), 1, 1, 10);
        gives(drawing(10, 6, 1), 1, 0, 10);
        gives(drawing(10, 1000, 1), 1, 0, 10);
        gives(drawing(10, 1000, 1), 199, 0, 1990);
        gives(drawing(10, 1000, 1), 200, 0, 2000);
    }

    private static void theMostSticks() {
        check.sentence(19, "A LUMP: how many sticks it gave.");
        gives(drawing(200, 0, 1), 200, 40000, 0);
        gives(drawing(200, 0, 1000), 200, 40, 0);
        gives(drawing(200, 1000, 1000), 200, 38, 2000);
    }

    private static void theRestAndTheEndsAreScrap() {
        check.sentence(20, "the rest, and the ends, are SCRAP");
        gives(drawing(100, 10, 30), 1, 2, 40);
        gives(drawing(100, 10, 27), 1, 2, 46);
        gives(drawing(100, 0, 100), 1, 1, 0);
        gives(drawing(100, 0, 99), 1, 1, 1);
    }

    private static void lumpsFortyAtMost() {
        check.sentence(19, "LUMPS, 40 at most");
        LetteredRock x = drawing(200, 0, 1);
        for (int n = 0; n < 40; n++) {
            check.due("lump " + n, x.lump(0, n % 10, n, 200), 40000);
        }
        check.due("lump 40", x.lump(0, 0, 39, 1), FULL);
        check.due("lump 40 again", x.lump(0, 0, 999, 1), FULL);
        check.due("count(4)", x.count(4), 40);
        check.due("count(5)", x.count(5), 1600000);
        check.due("the last stick", x.trace(1599999), 39);
        check.due("no stick behind", x.trace(1600000), BAD);
        check.due("made(39, 3)", x.made(39, 3), 1560000);
        check.due("made(40, 0)", x.made(40, 0), BAD);
        check.due("all recalled", x.recall(NONE, 0, 999), 1600000);
    }

    private static void lumpIsBadAheadOfNotAheadOfFull() {
        check.sentence(19, "BAD; NOT: the WORD does not FIT; FULL.");
        LetteredRock x = withWord();
        for (int n = 0; n < 40; n++) {
            x.lump(0, 0, 5, 1);
        }
        check.due("a word that does not fit, a hand that is none", x.lump(1, 10, 5, 1), BAD);
        check.due("a word that does not fit, a day ahead", x.lump(1, 0, 4, 1), BAD);
        check.due("a word that does not fit, no length", x.lump(1, 0, 5, 0), BAD);
        check.due("a word that fits, no length", x.lump(0, 0, 5, 0), BAD);
        check.due("a word that does not fit, all else well", x.lump(1, 0, 5, 1), NOT);
        check.due("a word that fits, all else well", x.lump(0, 0, 5, 1), FULL);
    }

    private static void madeWhat() {
        check.sentence(20, "0 WORD, 1 HAND, 2 DAY, 3 its first stick, 4 how many, 5 SCRAP");
        LetteredRock x = withWord();
        x.spell(7, 0);
        x.lump(0, 0, 0, 1);
        x.lump(7, 9, 999, 2);
        check.row("made(0, ?)", what -> x.made(0, what), 0, 0, 0, 0, 4, 20);
        check.row("made(1, ?)", what -> x.made(1, what), 7, 9, 999, 4, 9, 20);
        check.each("made(0, ?)", what -> x.made(0, what), BAD, -1, 6, MIN, MAX);
    }

    private static void madeLumpsThatAre() {
        check.sentence(20, "BAD.");
        LetteredRock x = withWord();
        check.due("made(0, 0) of a new object", x.made(0, 0), BAD);
        x.lump(0, 0, 0, 1);
        check.each("made(?, 0)", k -> x.made(k, 0), BAD, -1, 1, 39, 40, MIN, MAX);
        check.due("made(0, 0)", x.made(0, 0), 0);
    }

    private static void madeFirstStick() {
        check.sentence(20, "3 its first stick");
        LetteredRock x = withWord();
        x.lump(0, 0, 0, 1);
        x.set(TRIM, 1000);
        x.lump(0, 0, 0, 1);
        x.lump(0, 0, 0, 1);
        x.set(TRIM, 10);
        x.lump(0, 0, 0, 1);
        check.row("made(?, 3)", k -> x.made(k, 3), 0, 4, 4, 4);
        check.row("made(?, 4)", k -> x.made(k, 4), 4, 0, 0, 4);
    }

    private static void madeStaysAsItWas() {
        check.sentence(20, "Of a LUMP");
        LetteredRock x = withWord();
        x.lump(0, 3, 8, 1);
        x.wipe(0);
        x.slots(60);
        x.set(DRAW, 10);
        x.set(TRIM, 1000);
        x.set(STICK, 1);
        check.row("made(0, ?)", what -> x.made(0, what), 0, 3, 8, 0, 4, 20);
    }

    private static void traceFromZero() {
        check.sentence(21, "Sticks are numbered on from 0");
        LetteredRock x = withWord();
        x.lump(0, 0, 0, 1);
        x.lump(0, 0, 0, 2);
        check.row("trace(?)", x::trace, 0, 0, 0, 0, 1, 1, 1, 1, 1, 1, 1, 1, 1, BAD);
    }

    private static void traceOverLumpsWithoutSticks() {
        check.sentence(21, "The LUMP of a stick.");
        LetteredRock x = drawing(10, 10, 5);
        x.lump(0, 0, 0, 1);
        check.due("trace(0) behind a lump without sticks", x.trace(0), BAD);
        x.lump(0, 0, 0, 3);
        x.lump(0, 0, 0, 1);
        x.lump(0, 0, 0, 3);
        x.lump(0, 0, 0, 1);
        check.row("trace(?)", x::trace, 1, 1, 3, 3, BAD);
    }

    private static void traceSticksThatAre() {
        check.sentence(21, "BAD: there is no such stick.");
        LetteredRock x = withWord();
        check.each("trace(?) of a new object", x::trace, BAD, -1, 0, MIN, MAX);
        x.lump(0, 0, 0, 1);
        check.each("trace(?)", x::trace, 0, 0, 3);
        check.each("trace(?)", x::trace, BAD, -1, 4, MIN, MAX);
    }

    /** Hands 0 and 9 with 4 and 9 sticks on day 0, 14 and 19 on day 999. */
    private static LetteredRock withLumps() {
        LetteredRock x = withWord();
        x.lump(0, 0, 0, 1);
        x.lump(0, 9, 0, 2);
        x.lump(0, 0, 999, 3);
        x.lump(0, 9, 999, 4);
        return x;
    }

    private static void recallHands() {
        check.sentence(22, "all sticks of a HAND");
        LetteredRock x = withLumps();
        check.due("hand 0", x.recall(0, 0, 999), 18);
        check.due("hand 9", x.recall(9, 0, 999), 28);
        check.each("recall(?, 0, 999) of hands without lumps", hand -> x.recall(hand, 0, 999), 0, 1, 8);
        check.each("recall(?, 0, 999)", hand -> x.recall(hand, 0, 999), BAD, -2, 10, MIN, MAX);
    }

    private static void recallAnyHand() {
        check.sentence(22, "(NONE: any)");
        LetteredRock x = withLumps();
        check.due("recall(NONE, 0, 999)", x.recall(NONE, 0, 999), 46);
        check.due("recall(NONE, 0, 0)", x.recall(NONE, 0, 0), 13);
    }

    private static void recallDays() {
        check.sentence(22, "How many are RECALLED. BAD.");
        LetteredRock x = withLumps();
        check.each("recall(NONE, ?, 999)", day -> x.recall(NONE, day, 999), BAD, -1, 1000, MIN, MAX);
        check.each("recall(NONE, 0, ?)", day -> x.recall(NONE, 0, day), BAD, -1, 1000, MIN, MAX);
        check.due("from above to", x.recall(NONE, 1, 0), BAD);
        check.due("from far above to", x.recall(0, 999, 0), BAD);
    }

    private static void recallFromAndToAreIn() {
        check.sentence(22, "from one DAY to another");
        LetteredRock x = withLumps();
        check.due("the first day alone", x.recall(9, 0, 0), 9);
        check.due("from the day behind it", x.recall(9, 1, 999), 19);
        check.due("the last day alone", x.recall(9, 999, 999), 19);
        check.due("till the day ahead of it", x.recall(9, 0, 998), 9);
        check.due("the days between", x.recall(NONE, 1, 998), 0);
    }

    private static void recallOfNothing() {
        check.sentence(22, "RECALLED are all sticks");
        check.due("a new object", new LetteredRock().recall(NONE, 0, 999), 0);
        LetteredRock x = drawing(10, 1000, 1);
        x.lump(0, 0, 5, 1);
        check.due("a lump without sticks", x.recall(NONE, 5, 5), 0);
    }
}
