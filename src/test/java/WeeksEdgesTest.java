/** The edges of promises 23 to 27: each test holds the class to the words of the document that it names. */
public final class WeeksEdgesTest {
    private static final int BAD = LetteredRock.BAD, NONE = LetteredRock.NONE;
    private static final int LEFT = 0, SHORT = 1, LOST = 2, FIRST = 3;
    private static final int SOFTENS = 3;
    private static final int MIN = Integer.MIN_VALUE, MAX = Integer.MAX_VALUE;
    private static final Check check = new Check();

    public static void main(String[] args) {
        foretoldWeeks();
        foretoldOnlyOfItemsThatAre();
        foretoldOnlyOfSheets0To2();
        foretoldOf0OrAbove();
        foretoldTheMiddleOne();
        foretoldOfTwoTheLesser();
        foretoldWithout();
        foretoldOfLostSheetsIsNoFinding();
        dampWeeks();
        dampOrNot();
        makeFrom0To10000();
        makeWeeks();
        stockWeeks();
        stockFromAboveTo();
        stockBegins();
        stockWhat();
        stockMadeIsThereForTheWants();
        stockOnlyOfItsWeeks();
        stockOfTheLastWeekToo();
        stockIs0AtLeast();
        stockShortInAll();
        stockShortBeyondTheGreatestInt();
        stockFirstShort();
        stockSoftensWhatIsLeftThen();
        stockSoftensIsCut();
        stockSoftensNoneOrAll();
        stockIsDryOtherwise();
        stockAtMost();
        aheadWeeks();
        aheadFromAboveTo();
        aheadMost();
        aheadIsTheLeast();
        aheadOfTheLastWeekToo();
        aheadNeverBelowZero();
        aheadLosesNothingByDamp();
        aheadBeyondTheGreatestInt();
        check.end();
    }

    /** Sheet s is a row of ints. */
    private static void fill(LetteredRock x, int s, int... row) {
        x.sheet(s, 2, row.length);
        for (int i = 0; i < row.length; i++) {
            x.put(s, 2, i, row[i]);
        }
    }

    private static LetteredRock wanting(int... wants) {
        LetteredRock x = new LetteredRock();
        fill(x, 0, wants);
        return x;
    }

    private static void foretoldWeeks() {
        check.sentence(23, "WEEKS 0 .. 51");
        LetteredRock x = new LetteredRock();
        x.sheet(0, 2, 60);
        x.put(0, 2, 0, 5);
        x.put(0, 2, 51, 6);
        x.put(0, 2, 52, 7);
        check.due("foretold(0)", x.foretold(0), 5);
        check.due("foretold(51)", x.foretold(51), 6);
        check.each("foretold(?)", x::foretold, BAD, -1, 52, 59, MIN, MAX);
    }

    private static void foretoldOnlyOfItemsThatAre() {
        check.sentence(23, "WANTS of WEEK w: of items w of SHEETS 0 to 2");
        LetteredRock x = wanting(3, 4);
        check.row("foretold(?)", x::foretold, 3, 4, 0, 0);
        x.sheet(0, 2, 0);
        check.row("foretold(?) of no items", x::foretold, 0, 0, 0, 0);
        x.sheet(0, 2, 52);
        x.put(0, 2, 51, 9);
        check.due("foretold(51) of 52 items", x.foretold(51), 9);
        x.sheet(0, 2, 51);
        check.due("foretold(51) of 51 items", x.foretold(51), 0);
    }

    private static void foretoldOnlyOfSheets0To2() {
        check.sentence(23, "SHEETS 0 to 2");
        int[] want = {8, 8, 8, 0};
        for (int s = 0; s < 4; s++) {
            LetteredRock x = new LetteredRock();
            fill(x, s, 8);
            check.due("foretold(0) of sheet " + s + " alone", x.foretold(0), want[s]);
        }
    }

    private static void foretoldOf0OrAbove() {
        check.sentence(23, "those that are 0 or above");
        LetteredRock x = wanting(-1, MIN, 0, MAX);
        fill(x, 1, 7, 7, 7, 7);
        check.row("foretold(?)", x::foretold, 7, 7, 0, 7);
        x.sheet(1, 0, 1);
        x.put(1, 0, 0, 128);
        check.due("128 as a byte is below 0", x.foretold(0), 0);
        x.put(1, 0, 0, 127);
        check.due("127 as a byte is not", x.foretold(0), 127);
        x.sheet(1, 1, 1);
        x.put(1, 1, 0, 32768);
        check.due("32768 as a short is below 0", x.foretold(0), 0);
        x.put(1, 1, 0, 32767);
        check.due("32767 as a short is not", x.foretold(0), 32767);
    }

    private static void foretoldTheMiddleOne() {
        check.sentence(23, "the middle one of these, sorted");
        LetteredRock x = wanting(0, 0, MAX, MAX, 5, 5);
        fill(x, 1, 5, MAX, 0, 5, 0, 5);
        fill(x, 2, MAX, 5, 5, 0, MAX, 5);
        check.row("foretold(?)", x::foretold, 5, 5, 5, 5, 5, 5);
        fill(x, 0, 4, 4, 9, 0, MAX);
        fill(x, 1, 4, 9, 4, 0, MAX);
        fill(x, 2, 9, 4, 4, 1, 0);
        check.row("foretold(?) of two alike", x::foretold, 4, 4, 4, 0, MAX);
    }

    private static void foretoldOfTwoTheLesser() {
        check.sentence(23, "(of two the lesser)");
        LetteredRock x = wanting(3, 8, -1, 0);
        fill(x, 1, 8, 3, 8, 1);
        fill(x, 2, -1, -1, 3, -1);
        check.row("foretold(?)", x::foretold, 3, 3, 3, 0);
        x.lose(2);
        check.row("foretold(?), a year being lost", x::foretold, 3, 3, 8, 0);
        x.sheet(2, 2, 0);
        check.row("foretold(?), a year being empty", x::foretold, 3, 3, 8, 0);
    }

    private static void foretoldWithout() {
        check.sentence(23, "0 without");
        LetteredRock x = new LetteredRock();
        check.each("foretold(?) of a new object", x::foretold, 0, 0, 51);
        fill(x, 0, -1);
        fill(x, 1, -2);
        fill(x, 2, MIN);
        check.due("all are below 0", x.foretold(0), 0);
    }

    private static void foretoldOfLostSheetsIsNoFinding() {
        check.sentence(23, "0 without");
        LetteredRock x = new LetteredRock();
        x.foretold(0);
        x.stock(0, 51, 0, LEFT);
        x.ahead(0, 51, 0);
        x.digest();
        check.due("count(6)", x.count(6), 0);
    }

    private static void dampWeeks() {
        check.sentence(24, "WEEKS 0 .. 51");
        LetteredRock x = new LetteredRock();
        check.each("damp(?, true)", week -> x.damp(week, true), BAD, -1, 52, MIN, MAX);
        check.each("damp(?, false)", week -> x.damp(week, false), BAD, -1, 52, MIN, MAX);
        check.due("count(8)", x.count(8), 0);
        check.each("damp(?, true)", week -> x.damp(week, true), 1, 0, 51);
        check.due("count(8)", x.count(8), 2);
    }

    private static void dampOrNot() {
        check.sentence(24, "A WEEK is DAMP, or not: 1.");
        LetteredRock x = new LetteredRock();
        check.due("a dry week becomes dry", x.damp(5, false), 1);
        check.due("count(8), none at first", x.count(8), 0);
        check.due("a dry week becomes damp", x.damp(5, true), 1);
        check.due("a damp week becomes damp", x.damp(5, true), 1);
        check.due("count(8)", x.count(8), 1);
        check.due("a damp week becomes dry", x.damp(5, false), 1);
        check.due("count(8) behind it", x.count(8), 0);
    }

    private static void makeFrom0To10000() {
        check.sentence(25, "(told for each WEEK, 0 to 10000; 0 at first)");
        LetteredRock x = new LetteredRock();
        check.each("make(0, ?)", n -> x.make(0, n), BAD, -1, 10001, MIN, MAX);
        check.due("make(0, 10000)", x.make(0, 10000), 0);
        check.each("make(0, ?)", n -> x.make(0, n), BAD, -1, 10001);
        check.due("make(0, 0)", x.make(0, 0), 10000);
        check.due("make(0, 1)", x.make(0, 1), 0);
    }

    private static void makeWeeks() {
        check.sentence(25, "MADE in a WEEK: what it was. BAD.");
        LetteredRock x = new LetteredRock();
        check.each("make(?, 1)", week -> x.make(week, 1), BAD, -1, 52, MIN, MAX);
        check.each("make(?, 3)", week -> x.make(week, 3), 0, 0, 51);
        check.each("make(?, 4)", week -> x.make(week, 4), 3, 0, 51);
        check.due("another week", x.make(50, 4), 0);
    }

    private static void stockWeeks() {
        check.sentence(26, "WEEKS 0 .. 51");
        LetteredRock x = new LetteredRock();
        check.due("stock(0, 51, 7, 0)", x.stock(0, 51, 7, LEFT), 7);
        check.each("stock(?, 51, 7, 0)", from -> x.stock(from, 51, 7, LEFT), BAD, -1, 52, MIN, MAX);
        check.each("stock(0, ?, 7, 0)", to -> x.stock(0, to, 7, LEFT), BAD, -1, 52, MIN, MAX);
        check.due("stock(52, 52, 7, 0)", x.stock(52, 52, 7, LEFT), BAD);
        check.due("stock(-1, -1, 7, 0)", x.stock(-1, -1, 7, LEFT), BAD);
    }

    private static void stockFromAboveTo() {
        check.sentence(26, "BAD: also from above to.");
        LetteredRock x = new LetteredRock();
        check.due("stock(5, 4, 7, 0)", x.stock(5, 4, 7, LEFT), BAD);
        check.due("stock(51, 0, 7, 0)", x.stock(51, 0, 7, LEFT), BAD);
        check.due("stock(5, 5, 7, 0)", x.stock(5, 5, 7, LEFT), 7);
    }

    private static void stockBegins() {
        check.sentence(26, "beginning with a STOCK (0 to 100000)");
        LetteredRock x = new LetteredRock();
        check.each("stock(0, 0, ?, 0)", begin -> x.stock(0, 0, begin, LEFT), BAD, -1, 100001, MIN, MAX);
        check.due("stock(0, 0, 0, 0)", x.stock(0, 0, 0, LEFT), 0);
        check.due("stock(0, 0, 100000, 0)", x.stock(0, 0, 100000, LEFT), 100000);
    }

    private static void stockWhat() {
        check.sentence(26, "3 the first WEEK that is SHORT (NONE)");
        LetteredRock x = new LetteredRock();
        check.row("stock(0, 51, 9, ?)", what -> x.stock(0, 51, 9, what), 9, 0, 0, NONE);
        check.each("stock(0, 51, 9, ?)", what -> x.stock(0, 51, 9, what), BAD, -1, 4, MIN, MAX);
    }

    private static void stockMadeIsThereForTheWants() {
        check.sentence(26, "what it had and what was MADE");
        LetteredRock x = wanting(10);
        x.make(0, 4);
        check.row("stock(0, 0, 6, ?)", what -> x.stock(0, 0, 6, what), 0, 0, 0, NONE);
        check.row("stock(0, 0, 7, ?)", what -> x.stock(0, 0, 7, what), 1, 0, 0, NONE);
        check.row("stock(0, 0, 5, ?)", what -> x.stock(0, 0, 5, what), 0, 1, 0, 0);
    }

    private static void stockOnlyOfItsWeeks() {
        check.sentence(26, "From a WEEK on to another");
        LetteredRock x = wanting(100, 1, 100);
        x.make(0, 50);
        x.make(2, 50);
        x.damp(0, true);
        x.damp(2, true);
        check.row("stock(1, 1, 21, ?)", what -> x.stock(1, 1, 21, what), 20, 0, 0, NONE);
    }

    private static void stockOfTheLastWeekToo() {
        check.sentence(26, "from a WEEK to another (that too)");
        LetteredRock x = wanting(1, 2, 4, 8);
        check.due("weeks 0 to 0", x.stock(0, 0, 100, LEFT), 99);
        check.due("weeks 0 to 2", x.stock(0, 2, 100, LEFT), 93);
        check.due("weeks 1 to 3", x.stock(1, 3, 100, LEFT), 86);
        x.sheet(0, 2, 60);
        x.put(0, 2, 51, 9);
        check.due("weeks 51 to 51", x.stock(51, 51, 100, LEFT), 91);
        check.due("weeks 0 to 51", x.stock(0, 51, 100, LEFT), 91);
    }

    private static void stockIs0AtLeast() {
        check.sentence(26, "0 at least (what lacks is SHORT)");
        LetteredRock x = wanting(10, 0, 3);
        x.make(1, 5);
        check.row("stock(0, 0, 10, ?), nothing lacks", what -> x.stock(0, 0, 10, what), 0, 0, 0, NONE);
        check.row("stock(0, 0, 9, ?), one lacks", what -> x.stock(0, 0, 9, what), 0, 1, 0, 0);
        check.row("stock(0, 2, 0, ?), what lacks is no debt", what -> x.stock(0, 2, 0, what), 2, 10, 0, 0);
    }

    private static void stockShortInAll() {
        check.sentence(26, "1 SHORT in all");
        LetteredRock x = wanting(10, 20, 5, 30);
        x.make(2, 9);
        check.due("stock(0, 3, 0, 1)", x.stock(0, 3, 0, SHORT), 10 + 20 + 26);
        check.due("stock(0, 3, 15, 1)", x.stock(0, 3, 15, SHORT), 15 + 26);
    }

    private static void stockShortBeyondTheGreatestInt() {
        check.sentence(26, "(the greatest int, if it is more)");
        LetteredRock x = wanting(MAX, 1, 0);
        check.due("one less than the greatest int", x.stock(0, 0, 1, SHORT), MAX - 1);
        check.due("the greatest int", x.stock(0, 0, 0, SHORT), MAX);
        check.due("the greatest int, a week later", x.stock(0, 1, 1, SHORT), MAX);
        check.due("one more", x.stock(0, 1, 0, SHORT), MAX);
        x.sheet(0, 2, 52);
        for (int week = 0; week < 52; week++) {
            x.put(0, 2, week, MAX);
        }
        check.row("52 weeks, stock(0, 51, 0, ?)", what -> x.stock(0, 51, 0, what), 0, MAX, 0, 0);
    }

    private static void stockFirstShort() {
        check.sentence(26, "3 the first WEEK that is SHORT (NONE)");
        LetteredRock x = wanting(10, 10, 10);
        check.due("none", x.stock(0, 2, 30, FIRST), NONE);
        check.due("the last", x.stock(0, 2, 29, FIRST), 2);
        check.due("the middle one and the last", x.stock(0, 2, 19, FIRST), 1);
        check.due("all", x.stock(0, 2, 0, FIRST), 0);
        check.due("from week 1 on", x.stock(1, 2, 0, FIRST), 1);
        x.sheet(0, 2, 52);
        x.put(0, 2, 51, 1);
        check.due("week 51", x.stock(0, 51, 0, FIRST), 51);
    }

    private static void stockSoftensWhatIsLeftThen() {
        check.sentence(26, "in DAMP weeks of what is left then a part of SOFTENS hundredths");
        LetteredRock x = wanting(50, 50);
        x.damp(0, true);
        check.row("stock(0, 0, 150, ?)", what -> x.stock(0, 0, 150, what), 90, 0, 10, NONE);
        check.row("stock(0, 1, 150, ?)", what -> x.stock(0, 1, 150, what), 40, 0, 10, NONE);
        check.row("stock(0, 0, 50, ?), nothing is left", what -> x.stock(0, 0, 50, what), 0, 0, 0, NONE);
        check.row("stock(0, 0, 40, ?), it is short", what -> x.stock(0, 0, 40, what), 0, 10, 0, 0);
        x.damp(1, true);
        check.row("stock(0, 1, 150, ?), both damp", what -> x.stock(0, 1, 150, what), 36, 0, 14, NONE);
        check.row("stock(0, 1, 104, ?), short by damp", what -> x.stock(0, 1, 104, what), 0, 1, 5, 1);
    }

    private static void stockSoftensIsCut() {
        check.sentence(26, "10 at first; cut) is lost");
        LetteredRock x = new LetteredRock();
        x.damp(0, true);
        check.due("a tenth of 9", x.stock(0, 0, 9, LOST), 0);
        check.due("a tenth of 10", x.stock(0, 0, 10, LOST), 1);
        check.due("a tenth of 19", x.stock(0, 0, 19, LOST), 1);
        check.due("what is left of 19", x.stock(0, 0, 19, LEFT), 18);
        x.set(SOFTENS, 1);
        check.due("a hundredth of 99", x.stock(0, 0, 99, LOST), 0);
        check.due("a hundredth of 100", x.stock(0, 0, 100, LOST), 1);
        x.set(SOFTENS, 99);
        check.due("99 hundredths of 1", x.stock(0, 0, 1, LOST), 0);
        check.due("99 hundredths of 2", x.stock(0, 0, 2, LOST), 1);
    }

    private static void stockSoftensNoneOrAll() {
        check.sentence(26, "SOFTENS hundredths (0 to 100");
        LetteredRock x = new LetteredRock();
        x.damp(0, true);
        x.set(SOFTENS, 0);
        check.row("none, stock(0, 0, 100000, ?)", what -> x.stock(0, 0, 100000, what), 100000, 0, 0, NONE);
        x.set(SOFTENS, 100);
        check.row("all, stock(0, 0, 100000, ?)", what -> x.stock(0, 0, 100000, what), 0, 0, 100000, NONE);
        check.row("all of nothing, stock(0, 0, 0, ?)", what -> x.stock(0, 0, 0, what), 0, 0, 0, NONE);
    }

    private static void stockIsDryOtherwise() {
        check.sentence(26, "DAMP weeks are told (none at first)");
        LetteredRock x = new LetteredRock();
        x.set(SOFTENS, 100);
        check.due("no week is damp", x.stock(0, 51, 100, LOST), 0);
        x.damp(20, true);
        check.due("week 20 is damp", x.stock(0, 51, 100, LOST), 100);
        x.damp(20, false);
        check.due("week 20 is dry again", x.stock(0, 51, 100, LOST), 0);
    }

    private static void stockAtMost() {
        check.sentence(26, "0 what is left in the end");
        LetteredRock x = new LetteredRock();
        for (int week = 0; week < 52; week++) {
            x.make(week, 10000);
        }
        check.due("the most that may be left", x.stock(0, 51, 100000, LEFT), 620000);
        x.damp(51, true);
        x.set(SOFTENS, 100);
        check.due("the most that may be lost at once", x.stock(0, 51, 100000, LOST), 620000);
    }

    private static void aheadWeeks() {
        check.sentence(27, "WEEKS 0 .. 51");
        LetteredRock x = new LetteredRock();
        x.sheet(0, 2, 52);
        x.put(0, 2, 0, 3);
        x.put(0, 2, 51, 4);
        check.due("ahead(0, 51, 0)", x.ahead(0, 51, 0), 7);
        check.each("ahead(?, 51, 0)", from -> x.ahead(from, 51, 0), BAD, -1, 52, MIN, MAX);
        check.each("ahead(0, ?, 0)", to -> x.ahead(0, to, 0), BAD, -1, 52, MIN, MAX);
        check.due("ahead(52, 52, 0)", x.ahead(52, 52, 0), BAD);
        check.due("ahead(-1, -1, 0)", x.ahead(-1, -1, 0), BAD);
    }

    private static void aheadFromAboveTo() {
        check.sentence(27, "BAD: also from above to.");
        LetteredRock x = wanting(1, 1, 1, 1, 1, 1);
        check.due("ahead(5, 4, 0)", x.ahead(5, 4, 0), BAD);
        check.due("ahead(51, 0, 0)", x.ahead(51, 0, 0), BAD);
        check.due("ahead(5, 5, 0)", x.ahead(5, 5, 0), 1);
    }

    private static void aheadMost() {
        check.sentence(27, "with at most MOST (0 to 10000) MADE in each WEEK");
        LetteredRock x = wanting(10001);
        check.each("ahead(0, 0, ?)", most -> x.ahead(0, 0, most), BAD, -1, 10001, MIN, MAX);
        check.due("ahead(0, 0, 0)", x.ahead(0, 0, 0), 10001);
        check.due("ahead(0, 0, 10000)", x.ahead(0, 0, 10000), 1);
        x.make(0, 10000);
        check.due("what was told as MADE is not asked for", x.ahead(0, 0, 0), 10001);
    }

    /** Stock that begins with AHEAD is short of nothing, with one less it is. */
    private static void aheadIsTheLeast() {
        check.sentence(27, "the least STOCK to begin with at a WEEK, so that none is SHORT");
        int[][] rows = {{10, 50, 0, 90, 5}, {0, 0, 100}, {100, 0, 0}, {41, 39, 41, 39}, {39, 41, 41, 0, 200, 0}};
        for (int[] wants : rows) {
            LetteredRock x = wanting(wants);
            int last = wants.length - 1;
            for (int week = 0; week <= last; week++) {
                x.make(week, 40);
            }
            for (int from = 0; from <= last; from++) {
                int least = x.ahead(from, last, 40);
                String call = "stock from week " + from + " beginning with " + least;
                check.due(call, x.stock(from, last, least, SHORT), 0);
                if (least > 0) {
                    check.due(call + " less 1", x.stock(from, last, least - 1, SHORT), 1);
                }
            }
        }
    }

    private static void aheadOfTheLastWeekToo() {
        check.sentence(27, "till another (that too)");
        LetteredRock x = wanting(0, 0, 50);
        check.due("ahead(0, 1, 10)", x.ahead(0, 1, 10), 0);
        check.due("ahead(0, 2, 10)", x.ahead(0, 2, 10), 30 - 10);
        check.due("ahead(2, 2, 10)", x.ahead(2, 2, 10), 40);
        check.due("ahead(0, 3, 10)", x.ahead(0, 3, 10), 20);
    }

    private static void aheadNeverBelowZero() {
        check.sentence(27, "the least STOCK to begin with");
        LetteredRock x = wanting(10, 10);
        check.due("just enough is made", x.ahead(0, 1, 10), 0);
        check.due("more is made", x.ahead(0, 1, 10000), 0);
        check.due("one too few in each week", x.ahead(0, 1, 9), 2);
        check.due("nothing is wanted", x.ahead(2, 51, 0), 0);
        check.due("an early need that later weeks make good", wanting(50, 0, 0).ahead(0, 2, 30), 20);
    }

    private static void aheadLosesNothingByDamp() {
        check.sentence(27, "nothing lost by damp");
        LetteredRock x = wanting(10, 20, 30);
        for (int week = 0; week < 3; week++) {
            x.damp(week, true);
        }
        x.set(SOFTENS, 100);
        check.due("ahead(0, 2, 0)", x.ahead(0, 2, 0), 60);
    }

    private static void aheadBeyondTheGreatestInt() {
        check.sentence(27, "AHEAD (the greatest int, if it is more).");
        LetteredRock x = wanting(MAX, 1, 20000);
        check.due("one less than the greatest int", x.ahead(0, 0, 1), MAX - 1);
        check.due("the greatest int", x.ahead(0, 0, 0), MAX);
        check.due("one more", x.ahead(0, 1, 0), MAX);
        check.due("less again, by what is made", x.ahead(0, 1, 10000), MAX - 10000);
        check.due("the greatest int, three weeks", wanting(MAX, 20000, 10000).ahead(0, 2, 10000), MAX);
        x.sheet(0, 2, 52);
        for (int week = 0; week < 52; week++) {
            x.put(0, 2, week, MAX);
        }
        check.due("52 weeks", x.ahead(0, 51, 0), MAX);
    }
}
