/** Promises 23 to 27: wants by weeks, damp, stock, what must be made ahead. */
public final class WeeksTest {
    private static final int BAD = LetteredRock.BAD, NONE = LetteredRock.NONE;
    private static final int MIN = Integer.MIN_VALUE, MAX = Integer.MAX_VALUE;
    private static final int[] NO_WEEKS = {-1, 52, MIN, MAX};
    private static final Check check = new Check();

    public static void main(String[] args) {
        foretoldIsTheMiddle();
        foretoldOfMissingYears();
        foretoldRefusals();
        dampWeeks();
        makeAnswersOld();
        stockGoesOn();
        stockIsShort();
        stockSoftens();
        stockEdges();
        stockRefusals();
        aheadOfWants();
        aheadEdges();
        check.end();
    }

    private static void wants(LetteredRock x, int year, int... row) {
        x.sheet(year, 2, row.length);
        for (int week = 0; week < row.length; week++) {
            x.put(year, 2, week, row[week]);
        }
    }

    private static void foretoldIsTheMiddle() {
        int[][] orders = {{1, 2, 3}, {1, 3, 2}, {2, 1, 3}, {2, 3, 1}, {3, 1, 2}, {3, 2, 1}, {2, 2, 9}, {9, 2, 2},
            {2, 0, 2}, {2, 2, 2}};
        for (int[] years : orders) {
            LetteredRock x = new LetteredRock();
            for (int year = 0; year < 3; year++) {
                wants(x, year, years[year]);
            }
            check.due("middle of " + years[0] + " " + years[1] + " " + years[2], x.foretold(0), 2);
        }
    }

    private static void foretoldOfMissingYears() {
        LetteredRock x = new LetteredRock();
        check.due("no year", x.foretold(0), 0);
        wants(x, 3, 77, 77);
        check.due("sheet 3 is no year", x.foretold(0), 0);
        wants(x, 1, 40, 0, -5, MAX);
        check.due("one year", x.foretold(0), 40);
        check.due("one year that wants 0", x.foretold(1), 0);
        check.due("below 0 is none", x.foretold(2), 0);
        check.due("the greatest want", x.foretold(3), MAX);
        check.due("no such item", x.foretold(4), 0);
        wants(x, 2, 50, 7, 8, MAX, 9);
        check.due("the lesser of two", x.foretold(0), 40);
        check.due("the lesser of two, 0", x.foretold(1), 0);
        check.due("only one is told", x.foretold(2), 8);
        check.due("both the greatest", x.foretold(3), MAX);
        check.due("only one has the item", x.foretold(4), 9);
        wants(x, 0, 30, MIN);
        check.due("the middle", x.foretold(0), 40);
        check.due("the least int is none", x.foretold(1), 0);
        x.lose(1);
        check.due("of two that are left", x.foretold(0), 30);
        x.sheet(0, 0, 60);
        x.put(0, 0, 51, 127);
        x.put(0, 0, 50, 128);
        check.due("the last week, a byte", x.foretold(51), 127);
        check.due("a byte below 0", x.foretold(50), 0);
    }

    private static void foretoldRefusals() {
        LetteredRock x = new LetteredRock();
        x.sheet(0, 2, 60);
        for (int week : NO_WEEKS) {
            check.due("foretold(" + week + ")", x.foretold(week), BAD);
        }
        new LetteredRock().foretold(0);
        check.due("a lost year is no finding", x.count(6), 0);
    }

    private static void dampWeeks() {
        LetteredRock x = new LetteredRock();
        check.due("damp(0, true)", x.damp(0, true), 1);
        check.due("damp(51, true)", x.damp(51, true), 1);
        check.due("damp again", x.damp(51, true), 1);
        check.due("count(8)", x.count(8), 2);
        check.due("damp no more", x.damp(51, false), 1);
        check.due("never damp", x.damp(50, false), 1);
        for (int week : NO_WEEKS) {
            check.due("damp(" + week + ")", x.damp(week, true), BAD);
        }
        check.due("count(8) behind", x.count(8), 1);
    }

    private static void makeAnswersOld() {
        LetteredRock x = new LetteredRock();
        check.due("make(0, 10000)", x.make(0, 10000), 0);
        check.due("make(51, 7)", x.make(51, 7), 0);
        check.due("make(0, 0)", x.make(0, 0), 10000);
        for (int week : NO_WEEKS) {
            check.due("make(" + week + ", 1)", x.make(week, 1), BAD);
        }
        for (int n : new int[] {-1, 10001, MIN, MAX}) {
            check.due("make(51, " + n + ")", x.make(51, n), BAD);
        }
        check.due("as it was", x.make(51, 8), 7);
    }

    private static void stockDue(LetteredRock x, int from, int to, int begin, int... want) {
        for (int what = 0; what < want.length; what++) {
            String call = "stock(" + from + ", " + to + ", " + begin + ", " + what + ")";
            check.due(call, x.stock(from, to, begin, what), want[what]);
        }
    }

    private static void stockGoesOn() {
        LetteredRock x = new LetteredRock();
        wants(x, 0, 10, 20, 30, 40);
        x.make(1, 5);
        x.make(3, 100);
        stockDue(x, 0, 0, 10, 0, 0, 0, NONE);
        stockDue(x, 0, 3, 60, 65, 0, 0, NONE);
        stockDue(x, 1, 2, 45, 0, 0, 0, NONE);
        stockDue(x, 3, 3, 0, 60, 0, 0, NONE);
        stockDue(x, 4, 51, 9, 9, 0, 0, NONE);
    }

    private static void stockIsShort() {
        LetteredRock x = new LetteredRock();
        wants(x, 0, 10, 20, 30, 40);
        x.make(1, 5);
        x.make(3, 100);
        stockDue(x, 0, 3, 0, 60, 10 + 15 + 30, 0, 0);
        stockDue(x, 0, 3, 10, 60, 15 + 30, 0, 1);
        stockDue(x, 0, 3, 54, 60, 1, 0, 2);
        stockDue(x, 2, 2, 29, 0, 1, 0, 2);
    }

    private static void stockSoftens() {
        LetteredRock x = new LetteredRock();
        wants(x, 0, 10, 0, 30);
        x.damp(0, true);
        x.damp(1, true);
        stockDue(x, 0, 0, 109, 90, 0, 9, NONE);
        stockDue(x, 0, 1, 109, 81, 0, 18, NONE);
        stockDue(x, 0, 2, 19, 0, 21, 0, 2);
        stockDue(x, 0, 0, 5, 0, 5, 0, 0);
        x.set(3, 100);
        stockDue(x, 0, 1, 109, 0, 0, 99, NONE);
        x.set(3, 0);
        stockDue(x, 0, 1, 109, 99, 0, 0, NONE);
        x.set(3, 33);
        x.damp(1, false);
        stockDue(x, 0, 2, 110, 37, 0, 33, NONE);
    }

    private static void stockEdges() {
        LetteredRock x = new LetteredRock();
        for (int week = 0; week < 52; week++) {
            x.make(week, 10000);
        }
        stockDue(x, 0, 51, 100000, 620000, 0, 0, NONE);
        x.damp(51, true);
        x.set(3, 99);
        stockDue(x, 0, 51, 100000, 6200, 0, 613800, NONE);
        wants(x, 0, MAX, 10000);
        stockDue(x, 0, 0, 0, 0, MAX - 10000, 0, 0);
        x.make(0, 0);
        stockDue(x, 0, 0, 0, 0, MAX, 0, 0);
        x.make(1, 9999);
        stockDue(x, 0, 1, 0, 0, MAX, 0, 0);
        int[] most = new int[52];
        java.util.Arrays.fill(most, MAX);
        wants(x, 0, most);
        stockDue(x, 0, 51, 0, 0, MAX, 0, 0);
    }

    private static void stockRefusals() {
        LetteredRock x = new LetteredRock();
        int[][] wrong = {{-1, 0, 0, 0}, {MIN, 0, 0, 0}, {0, 52, 0, 0}, {0, MAX, 0, 0}, {52, 52, 0, 0}, {1, 0, 0, 0},
            {51, 50, 0, 0}, {0, -1, 0, 0}, {MAX, MIN, 0, 0}, {0, 0, -1, 0}, {0, 0, 100001, 0}, {0, 0, MIN, 0},
            {0, 0, MAX, 0}, {0, 0, 0, -1}, {0, 0, 0, 4}, {0, 0, 0, MIN}, {0, 0, 0, MAX}};
        for (int[] w : wrong) {
            String call = "stock(" + w[0] + ", " + w[1] + ", " + w[2] + ", " + w[3] + ")";
            check.due(call, x.stock(w[0], w[1], w[2], w[3]), BAD);
        }
    }

    private static void aheadOfWants() {
        LetteredRock x = new LetteredRock();
        wants(x, 0, 10, 50, 0, 90, 5);
        check.due("nothing made", x.ahead(0, 4, 0), 155);
        check.due("made 30 a week", x.ahead(0, 4, 30), 30);
        check.due("made 40 a week", x.ahead(0, 4, 40), 0);
        check.due("made 40 a week, from week 1", x.ahead(1, 4, 40), 20);
        check.due("the first weeks alone", x.ahead(0, 1, 20), 20);
        check.due("a greater need in the middle", x.ahead(1, 2, 45), 5);
        check.due("the last week too", x.ahead(4, 4, 4), 1);
        check.due("just enough", x.ahead(3, 3, 90), 0);
        x.make(0, 10000);
        x.damp(0, true);
        check.due("neither MADE nor damp counts", x.ahead(0, 4, 30), 30);
        check.due("weeks without wants", x.ahead(5, 51, 0), 0);
    }

    private static void aheadEdges() {
        LetteredRock x = new LetteredRock();
        wants(x, 0, MAX, 10000, 10000);
        check.due("the greatest int", x.ahead(0, 0, 0), MAX);
        check.due("more than the greatest int", x.ahead(0, 1, 0), MAX);
        check.due("the most made", x.ahead(0, 2, 10000), MAX - 10000);
        int[][] wrong = {{-1, 0, 0}, {MIN, 0, 0}, {0, 52, 0}, {0, MAX, 0}, {52, 52, 0}, {1, 0, 0}, {0, -1, 0},
            {MAX, MIN, 0}, {0, 0, -1}, {0, 0, 10001}, {0, 0, MIN}, {0, 0, MAX}};
        for (int[] w : wrong) {
            check.due("ahead(" + w[0] + ", " + w[1] + ", " + w[2] + ")", x.ahead(w[0], w[1], w[2]), BAD);
        }
    }
}
