import java.math.BigInteger;

/** The edges of promises 33 and 34: each test holds the class to the words of the document that it names. */
public final class CountsEdgesTest {
    private static final int BAD = LetteredRock.BAD;
    private static final int MIN = Integer.MIN_VALUE, MAX = Integer.MAX_VALUE;
    private static final Check check = new Check();

    public static void main(String[] args) {
        countOfANewObject();
        countLetters();
        countWordsThatFit();
        countSlotsAndGap();
        countLumpsAndSticks();
        countTheLatestFinding();
        countNoFindingOfOtherRefusals();
        countScrap();
        countDampWeeks();
        countWhatThereIs();
        digestOfANewObject();
        digestWraps();
        digestOfAFullBook();
        digestLeavesOutTheFinding();
        check.end();
    }

    private static LetteredRock withWord() {
        LetteredRock x = new LetteredRock();
        x.letter(4, 1, 1);
        x.spell(0, 0);
        return x;
    }

    private static void countOfANewObject() {
        check.sentence(33, "(0 before any)");
        LetteredRock x = new LetteredRock();
        check.row("count(?)", x::count, 0, 0, 30, 1, 0, 0, 0, 0, 0);
    }

    private static void countLetters() {
        check.sentence(33, "0 LETTERS");
        LetteredRock x = new LetteredRock();
        for (int n = 1; n <= 16; n++) {
            x.letter(1, 1, 1);
            check.due("count(0)", x.count(0), n);
        }
        x.letter(1, 1, 1);
        check.due("count(0) behind FULL", x.count(0), 16);
    }

    private static void countWordsThatFit() {
        check.sentence(33, "1 WORDS that FIT");
        LetteredRock x = withWord();
        for (int word = 1; word < 8; word++) {
            x.spell(word, 0);
            check.due("count(1)", x.count(1), word + 1);
        }
        x.slots(5);
        check.due("all just fit", x.count(1), 8);
        x.gap(2);
        check.due("none fits", x.count(1), 0);
        x.gap(0);
        x.spell(7, 0);
        check.due("one does not", x.count(1), 7);
        x.wipe(0);
        check.due("one is empty", x.count(1), 6);
    }

    private static void countSlotsAndGap() {
        check.sentence(33, "2 S, 3 GAP");
        LetteredRock x = new LetteredRock();
        x.slots(5);
        x.gap(0);
        check.due("count(2)", x.count(2), 5);
        check.due("count(3)", x.count(3), 0);
        x.slots(60);
        x.gap(3);
        x.slots(61);
        x.gap(4);
        check.due("count(2)", x.count(2), 60);
        check.due("count(3)", x.count(3), 3);
    }

    private static void countLumpsAndSticks() {
        check.sentence(33, "4 LUMPS, 5 sticks");
        LetteredRock x = withWord();
        for (int n = 1; n <= 40; n++) {
            x.lump(0, 0, 0, 1);
            check.due("count(4)", x.count(4), n);
            check.due("count(5)", x.count(5), 4 * n);
        }
        x.lump(0, 0, 0, 1);
        check.due("count(4) behind FULL", x.count(4), 40);
        check.due("count(5) behind FULL", x.count(5), 160);
    }

    private static void countTheLatestFinding() {
        check.sentence(33, "6 the number of the latest FINDING");
        LetteredRock x = new LetteredRock();
        x.sheet(0, 0, 1);
        x.sheet(1, 1, 1);
        check.due("SIZE", x.sheet(0, 0, -1), -10 - 5);
        check.due("count(6)", x.count(6), 5);
        check.due("STORE", x.copy(0, 0, 1, 0, 1), -10 - 4);
        check.due("count(6)", x.count(6), 4);
        check.due("CAST", x.put(0, 1, 0, 0), -10 - 3);
        check.due("count(6)", x.count(6), 3);
        check.due("INDEX", x.put(0, 0, 1, 0), -10 - 2);
        check.due("count(6)", x.count(6), 2);
        check.due("NULL", x.lose(3), -10 - 1);
        check.due("count(6)", x.count(6), 1);
        x.put(0, 0, 0, 0);
        check.due("count(6) behind a call that is well", x.count(6), 1);
    }

    private static void countNoFindingOfOtherRefusals() {
        check.sentence(33, "BAD -2 (a number not as told, no such thing), NOT -3, FULL -4 (as told), FINDINGS");
        LetteredRock x = withWord();
        for (int n = 0; n < 10; n++) {
            x.spell(0, 0);
        }
        check.due("BAD", x.lose(4), -2);
        check.due("NOT", x.cut(1, 0, 0, 0), -3);
        check.due("FULL", x.spell(0, 0), -4);
        check.due("count(6)", x.count(6), 0);
        x.lose(0);
        x.lose(4);
        x.cut(1, 0, 0, 0);
        x.spell(0, 0);
        check.due("count(6) stays", x.count(6), 1);
    }

    private static void countScrap() {
        check.sentence(33, "7 SCRAP in all");
        LetteredRock x = withWord();
        x.set(0, 200);
        x.set(1, 1000);
        x.set(2, 1);
        for (int n = 1; n <= 40; n++) {
            x.lump(0, 0, 0, 10);
            check.due("count(7)", x.count(7), 2000 * n);
        }
        x.lump(0, 0, 0, 10);
        check.due("count(7) behind FULL", x.count(7), 80000);
        LetteredRock y = withWord();
        y.set(1, 0);
        y.lump(0, 0, 0, 1);
        check.due("count(7) without scrap", y.count(7), 0);
    }

    private static void countDampWeeks() {
        check.sentence(33, "8 DAMP WEEKS");
        LetteredRock x = new LetteredRock();
        for (int week = 0; week < 52; week++) {
            x.damp(week, true);
            check.due("count(8)", x.count(8), week + 1);
        }
        x.damp(52, true);
        check.due("count(8) behind BAD", x.count(8), 52);
        x.damp(51, false);
        check.due("count(8)", x.count(8), 51);
    }

    private static void countWhatThereIs() {
        check.sentence(33, "8 DAMP WEEKS. BAD.");
        LetteredRock x = new LetteredRock();
        check.each("count(?)", x::count, BAD, -1, 9, MIN, MAX);
    }

    /** The digest without any wrap of its own, cut to 64 bits in the end. */
    private static long digestOf(int... numbers) {
        BigInteger h = BigInteger.valueOf(17);
        for (int number : numbers) {
            h = h.multiply(BigInteger.valueOf(31)).add(BigInteger.valueOf(number));
        }
        return h.longValue();
    }

    private static int[] join(int[]... parts) {
        int[] all = {};
        for (int[] part : parts) {
            int[] longer = java.util.Arrays.copyOf(all, all.length + part.length);
            System.arraycopy(part, 0, longer, all.length, part.length);
            all = longer;
        }
        return all;
    }

    private static void digestOfANewObject() {
        check.sentence(34, "h is 17");
        int[] counts = {0, 0, 30, 1, 0, 0, 0, 0};
        int[] all = join(counts, new int[16], new int[52], new int[] {100, 10, 20, 10});
        check.due("digest()", new LetteredRock().digest(), digestOf(all));
    }

    private static void digestWraps() {
        check.sentence(34, "as longs that wrap");
        LetteredRock x = withWord();
        x.slots(60);
        x.gap(3);
        x.spell(7, 0);
        x.spell(7, 0);
        x.damp(0, true);
        x.set(0, 200);
        x.set(1, 1000);
        x.set(2, 1000);
        x.set(3, 100);
        x.sheet(0, 2, 60);
        int[] wants = new int[52];
        for (int week = 0; week < 52; week++) {
            wants[week] = MAX - week;
            x.put(0, 2, week, wants[week]);
        }
        int[] counts = {1, 2, 60, 3, 0, 0, 0, 1};
        int[] wideAndLate = {7, 0, 0, 0, 0, 0, 0, 0, 0, 0, 0, 0, 0, 0, 14, 1};
        int[] all = join(counts, wideAndLate, wants, new int[] {200, 1000, 1000, 100});
        check.due("digest()", x.digest(), digestOf(all));
    }

    private static void digestOfAFullBook() {
        check.sentence(34, "of each LUMP made() 0 to 5");
        LetteredRock x = withWord();
        int[] lumps = new int[240];
        for (int n = 0; n < 40; n++) {
            x.lump(0, n % 10, n, 1);
            System.arraycopy(new int[] {0, n % 10, n, 4 * n, 4, 20}, 0, lumps, 6 * n, 6);
        }
        int[] counts = {1, 1, 30, 1, 40, 160, 800, 0};
        int[] wideAndLate = {5, 0, 0, 0, 0, 0, 0, 0, 0, 0, 0, 0, 0, 0, 0, 0};
        int[] all = join(counts, wideAndLate, lumps, new int[52], new int[] {100, 10, 20, 10});
        check.due("digest()", x.digest(), digestOf(all));
    }

    private static void digestLeavesOutTheFinding() {
        check.sentence(34, "count() 0 to 5, 7, 8");
        LetteredRock x = new LetteredRock();
        long before = x.digest();
        x.lose(0);
        check.due("digest() behind NULL", x.digest(), before);
        x.sheet(0, 0, -1);
        check.due("digest() behind SIZE", x.digest(), before);
    }
}
