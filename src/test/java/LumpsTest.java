/** Promises 18 to 22: settings, lumps, sticks, recalls. */
public final class LumpsTest {
    private static final int BAD = LetteredRock.BAD, NOT = LetteredRock.NOT, FULL = LetteredRock.FULL;
    private static final int NONE = LetteredRock.NONE;
    private static final int MIN = Integer.MIN_VALUE, MAX = Integer.MAX_VALUE;
    private static final Check check = new Check();

    public static void main(String[] args) {
        settings();
        settingRefusals();
        sticksAndScrap();
        edgesOfDrawing();
        lumpRefusals();
        lumpBookIsFull();
        madeTellsAll();
        madeKeepsWhatWas();
        traceLeadsBack();
        recallByHandAndDays();
        recallRefusals();
        check.end();
    }

    private static LetteredRock withWord() {
        LetteredRock x = new LetteredRock();
        x.letter(3, 1, 1);
        x.spell(4, 0);
        return x;
    }

    private static void settings() {
        LetteredRock x = new LetteredRock();
        int[] first = {100, 10, 20, 10};
        int[] least = {10, 0, 1, 0};
        int[] most = {200, 1000, 1000, 100};
        for (int what = 0; what < 4; what++) {
            check.due("set the least of " + what, x.set(what, least[what]), first[what]);
            check.due("set the most of " + what, x.set(what, most[what]), least[what]);
            check.due("below the least of " + what, x.set(what, least[what] - 1), BAD);
            check.due("above the most of " + what, x.set(what, most[what] + 1), BAD);
            check.due("as it was, " + what, x.set(what, most[what]), most[what]);
        }
    }

    private static void settingRefusals() {
        LetteredRock x = new LetteredRock();
        long digest = x.digest();
        for (int[] w : new int[][] {{-1, 50}, {4, 50}, {MIN, 50}, {MAX, 50}, {0, MIN}, {0, MAX}, {3, MIN}, {3, MAX}}) {
            check.due("set(" + w[0] + ", " + w[1] + ")", x.set(w[0], w[1]), BAD);
        }
        check.unchanged("set", x, digest, 0);
    }

    private static void lumpDue(LetteredRock x, int length, int sticks, int scrap) {
        int number = x.count(4);
        check.due("lump of length " + length, x.lump(4, 0, 0, length), sticks);
        check.due("its sticks", x.made(number, 4), sticks);
        check.due("its scrap", x.made(number, 5), scrap);
    }

    private static void sticksAndScrap() {
        LetteredRock x = withWord();
        lumpDue(x, 1, 4, 20);
        x.set(2, 27);
        lumpDue(x, 1, 2, 46);
        x.set(2, 81);
        lumpDue(x, 1, 0, 100);
        x.set(2, 80);
        lumpDue(x, 1, 1, 20);
        check.due("sticks in all", x.count(5), 7);
        check.due("scrap in all", x.count(7), 186);
    }

    private static void edgesOfDrawing() {
        LetteredRock x = withWord();
        x.set(0, 200);
        x.set(1, 0);
        x.set(2, 1);
        lumpDue(x, 200, 40000, 0);
        x.set(0, 10);
        x.set(1, 1000);
        lumpDue(x, 1, 0, 10);
        lumpDue(x, 199, 0, 1990);
        lumpDue(x, 200, 0, 2000);
        x.set(0, 11);
        x.set(2, 1000);
        lumpDue(x, 200, 0, 2200);
        x.set(2, 200);
        lumpDue(x, 200, 1, 2000);
    }

    private static void lumpRefusals() {
        LetteredRock x = withWord();
        x.lump(4, 1, 500, 1);
        long digest = x.digest();
        int[][] wrong = {{-1, 0, 500, 1}, {8, 0, 500, 1}, {MIN, 0, 500, 1}, {MAX, 0, 500, 1}, {4, -1, 500, 1},
            {4, 10, 500, 1}, {4, MIN, 500, 1}, {4, MAX, 500, 1}, {4, 0, -1, 1}, {4, 0, 499, 1}, {4, 0, 1000, 1},
            {4, 0, MIN, 1}, {4, 0, MAX, 1}, {4, 0, 500, 0}, {4, 0, 500, 201}, {4, 0, 500, MIN}, {4, 0, 500, MAX}};
        for (int[] w : wrong) {
            String call = "lump(" + w[0] + ", " + w[1] + ", " + w[2] + ", " + w[3] + ")";
            check.due(call, x.lump(w[0], w[1], w[2], w[3]), BAD);
        }
        check.due("an empty word", x.lump(0, 0, 500, 1), NOT);
        check.due("BAD comes ahead of NOT", x.lump(0, 0, 499, 1), BAD);
        check.unchanged("lump", x, digest, 0);
        x.spell(4, 0);
        x.slots(7);
        check.due("too wide", x.lump(4, 0, 500, 1), NOT);
        x.slots(8);
        check.due("just fits, on the latest day", x.lump(4, 0, 500, 1), 4);
        check.due("the last day", x.lump(4, 9, 999, 1), 4);
        check.due("a day ahead of it", x.lump(4, 9, 998, 1), BAD);
    }

    private static void lumpBookIsFull() {
        LetteredRock x = withWord();
        for (int n = 0; n < 40; n++) {
            check.due("lump " + n, x.lump(4, 0, n, 1), 4);
        }
        long digest = x.digest();
        check.due("lump 40", x.lump(4, 0, 40, 1), FULL);
        check.due("NOT comes ahead of FULL", x.lump(5, 0, 40, 1), NOT);
        check.due("BAD comes ahead of FULL", x.lump(4, 0, 38, 1), BAD);
        check.unchanged("FULL", x, digest, 0);
        check.due("count(4)", x.count(4), 40);
        check.due("the last lump", x.made(39, 2), 39);
        check.due("no lump behind", x.made(40, 2), BAD);
        check.due("the first stick", x.trace(0), 0);
        check.due("the last stick", x.trace(159), 39);
        check.due("no stick behind", x.trace(160), BAD);
    }

    private static void madeDue(LetteredRock x, int lump, int... want) {
        for (int what = 0; what < want.length; what++) {
            check.due("made(" + lump + ", " + what + ")", x.made(lump, what), want[what]);
        }
    }

    private static void madeTellsAll() {
        LetteredRock x = withWord();
        x.spell(7, 0);
        check.due("no lump", x.made(0, 0), BAD);
        x.lump(4, 3, 10, 2);
        x.set(1, 500);
        x.lump(7, 9, 11, 1);
        x.set(1, 10);
        x.lump(7, 0, 11, 1);
        madeDue(x, 0, 4, 3, 10, 0, 9, 20);
        madeDue(x, 1, 7, 9, 11, 9, 0, 100);
        madeDue(x, 2, 7, 0, 11, 9, 4, 20);
        for (int[] w : new int[][] {{-1, 0}, {3, 0}, {MIN, 0}, {MAX, 0}, {0, -1}, {0, 6}, {0, MIN}, {0, MAX}}) {
            check.due("made(" + w[0] + ", " + w[1] + ")", x.made(w[0], w[1]), BAD);
        }
    }

    private static void madeKeepsWhatWas() {
        LetteredRock x = withWord();
        x.lump(4, 3, 10, 2);
        x.wipe(4);
        x.set(0, 10);
        x.set(1, 0);
        x.set(2, 1);
        madeDue(x, 0, 4, 3, 10, 0, 9, 20);
    }

    private static void traceLeadsBack() {
        LetteredRock x = withWord();
        check.due("no stick", x.trace(0), BAD);
        x.set(1, 500);
        x.lump(4, 0, 0, 1);
        check.due("no stick of an empty lump", x.trace(0), BAD);
        x.set(1, 10);
        x.lump(4, 0, 0, 1);
        x.set(1, 500);
        x.lump(4, 0, 0, 1);
        x.set(1, 10);
        x.lump(4, 0, 0, 1);
        int[] want = {1, 1, 1, 1, 3, 3, 3, 3};
        for (int stick = 0; stick < want.length; stick++) {
            check.due("trace(" + stick + ")", x.trace(stick), want[stick]);
        }
        for (int stick : new int[] {-1, 8, MIN, MAX}) {
            check.due("trace(" + stick + ")", x.trace(stick), BAD);
        }
    }

    private static LetteredRock withFourLumps() {
        LetteredRock x = withWord();
        x.set(1, 0);
        x.lump(4, 0, 0, 1);
        x.lump(4, 9, 5, 2);
        x.lump(4, 0, 5, 4);
        x.lump(4, 9, 999, 8);
        return x;
    }

    private static void recallByHandAndDays() {
        LetteredRock x = withFourLumps();
        check.due("all", x.recall(NONE, 0, 999), 75);
        check.due("hand 0", x.recall(0, 0, 999), 25);
        check.due("hand 9", x.recall(9, 0, 999), 50);
        check.due("a hand that made none", x.recall(5, 0, 999), 0);
        check.due("one day", x.recall(NONE, 5, 5), 30);
        check.due("one day of a hand", x.recall(9, 5, 5), 10);
        check.due("from a day on", x.recall(NONE, 6, 999), 40);
        check.due("till a day", x.recall(NONE, 0, 4), 5);
        check.due("days without lumps", x.recall(NONE, 6, 998), 0);
        check.due("of a new object", new LetteredRock().recall(NONE, 0, 999), 0);
    }

    private static void recallRefusals() {
        LetteredRock x = withFourLumps();
        int[][] wrong = {{-2, 0, 9}, {10, 0, 9}, {MIN, 0, 9}, {MAX, 0, 9}, {0, -1, 9}, {0, MIN, 9}, {0, 1000, 1000},
            {0, 0, 1000}, {0, 0, MAX}, {0, 0, -1}, {0, MAX, MIN}, {0, 6, 5}, {NONE, 999, 0}};
        for (int[] w : wrong) {
            check.due("recall(" + w[0] + ", " + w[1] + ", " + w[2] + ")", x.recall(w[0], w[1], w[2]), BAD);
        }
    }
}
