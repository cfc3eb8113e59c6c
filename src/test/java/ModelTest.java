import java.util.Arrays;
import java.util.Random;

/** Long runs of mixed calls, ordinary and wrong ones: the class answers as PlainRock does. */
public final class ModelTest {
    private static final int RUNS = 600, CALLS_OF_AN_OBJECT = 512;
    private static final int MIN = Integer.MIN_VALUE, MAX = Integer.MAX_VALUE;
    private static final int[] FAR = {MIN, MIN + 1, MIN + 9, -100, 100, 1 << 16, MAX - 1, MAX};

    /** A call, how often it comes, and the least and the greatest of each of its numbers. */
    private static final Object[][] CALLS_OF = {
        {"letter", 3, 1, 5, 1, 9, 1, 99}, {"strip", 6, 0, 15, 0, 4, 0, 31}, {"about", 2, 0, 15, 0, 14},
        {"spell", 10, 0, 7, 0, 15}, {"wipe", 1, 0, 7}, {"slots", 1, 5, 60}, {"gap", 1, 0, 3}, {"wide", 2, 0, 7},
        {"longest", 2}, {"cut", 6, 0, 7, 0, 59, 0, 3, 0, 59}, {"readings", 2, 0, 3}, {"reading", 3, 0, 3, 0, 99},
        {"words", 2, 0, 3}, {"order", 4, 0, 7, 0, 9}, {"late", 2, 0, 7}, {"spoiled", 2, 0, 7},
        {"set", 2, 0, 3, 0, 200}, {"lump", 6, 0, 7, 0, 9, 0, 999, 1, 200}, {"made", 4, 0, 40, 0, 5},
        {"trace", 4, 0, 999}, {"recall", 3, -1, 9, 0, 999, 0, 999}, {"foretold", 3, 0, 51}, {"damp", 2, 0, 51, 0, 1},
        {"make", 3, 0, 51, 0, 10000}, {"stock", 5, 0, 51, 0, 51, 0, 100000, 0, 3},
        {"ahead", 3, 0, 51, 0, 51, 0, 10000}, {"sheet", 2, 0, 3, 0, 2, 0, 60}, {"lose", 1, 0, 3},
        {"put", 12, 0, 3, 0, 2, 0, 59, 0, 31}, {"get", 4, 0, 3, 0, 2, 0, 59}, {"copy", 4, 0, 3, 0, 59, 0, 3, 0, 59, 0, 60},
        {"count", 2, 0, 8}, {"digest", 2}};

    private static final Check check = new Check();
    private static final Random random = new Random(20261116);

    private final LetteredRock rock = new LetteredRock();
    private final PlainRock plain = new PlainRock();
    private final int run;
    private int asked = 0;

    private ModelTest(int run) {
        this.run = run;
    }

    public static void main(String[] args) throws ReflectiveOperationException {
        for (int run = 0; run < RUNS; run++) {
            new ModelTest(run).askAll();
        }
        check.end();
    }

    /** Every second run begins with much to work on, the others with nothing. */
    private void askAll() throws ReflectiveOperationException {
        if (run % 2 == 0) {
            stockUp();
        }
        while (asked < CALLS_OF_AN_OBJECT - 3) {
            Object[] row = pick();
            ask((String) row[0], numbersFor(row));
        }
        ask("digest");
    }

    private void stockUp() throws ReflectiveOperationException {
        int form = random.nextInt(3);
        int slots = 5 + random.nextInt(16);
        ask("slots", slots);
        for (int letter = 0; letter < 16; letter++) {
            ask("letter", 1 + random.nextInt(3), 1 + random.nextInt(9), 1 + random.nextInt(30));
            ask("strip", letter, 0, 1 << random.nextInt(5));
        }
        for (int word = 0; word < 8; word++) {
            ask("spell", word, random.nextInt(4));
            ask("spell", word, random.nextInt(4));
        }
        for (int s = 0; s < 4; s++) {
            ask("sheet", s, form, 30 + random.nextInt(31));
            showCut(s, form, slots);
            ask("readings", s);
            ask("words", s);
            ask("reading", s, random.nextInt(4));
        }
        for (int lump = random.nextInt(45); lump > 0; lump--) {
            ask("lump", random.nextInt(8), random.nextInt(10), 50 - lump, 1 + random.nextInt(5));
        }
    }

    /** Puts a cut of some word on a sheet, with some strips lost. */
    private void showCut(int s, int form, int slots) throws ReflectiveOperationException {
        int word = random.nextInt(8);
        int turn = random.nextInt(slots);
        int look = random.nextInt(4);
        for (int i = 0; i < slots; i++) {
            long strip = Calls.answer(plain, "cut", word, turn, look, i);
            ask("put", s, form, i, random.nextInt(3) == 0 ? 99 : (int) strip);
        }
    }

    private void ask(String name, int... numbers) throws ReflectiveOperationException {
        String call = "run " + run + ", call " + asked + ": " + name + Arrays.toString(numbers);
        long want = Calls.answer(plain, name, numbers);
        check.due(call, Calls.answer(rock, name, numbers), want);
        asked++;
        // The findings are told by count(6) alone, behind a get() above all.
        if (want <= -10 || name.equals("digest")) {
            check.due("count(6) behind " + call, rock.count(6), plain.count(6));
            asked++;
        }
    }

    private static Object[] pick() {
        int sum = 0;
        for (Object[] row : CALLS_OF) {
            sum += (Integer) row[1];
        }
        int at = random.nextInt(sum);
        for (Object[] row : CALLS_OF) {
            at -= (Integer) row[1];
            if (at < 0) {
                return row;
            }
        }
        return CALLS_OF[0];
    }

    private static int[] numbersFor(Object[] row) {
        int[] numbers = new int[(row.length - 2) / 2];
        for (int k = 0; k < numbers.length; k++) {
            numbers[k] = number((Integer) row[2 + 2 * k], (Integer) row[3 + 2 * k]);
        }
        return numbers;
    }

    /** Low numbers come often, since few things stand at first. */
    private static int number(int least, int most) {
        int kind = random.nextInt(40);
        if (kind == 0) {
            return FAR[random.nextInt(FAR.length)];
        }
        if (kind == 1) {
            return random.nextBoolean() ? least - 1 : most + 1;
        }
        if (kind < 6) {
            return random.nextBoolean() ? least : most;
        }
        int width = most - least + 1;
        return least + random.nextInt(random.nextBoolean() ? Math.min(width, 6) : width);
    }
}
