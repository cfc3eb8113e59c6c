import java.util.ArrayList;
import java.util.List;
import java.util.function.ToLongFunction;

/**
 * "Refusals, the first that fits: BAD -2 (a number not as told, no such thing), NOT -3, FULL -4 (as told),
 * FINDINGS. They change nothing else." Each refused call is asked of one of two like objects; whatever can
 * be asked of both then has like answers, but for count() 6 where the refusal is a FINDING.
 */
public final class RefusalsTest {
    private static final int BAD = LetteredRock.BAD, NOT = LetteredRock.NOT, FULL = LetteredRock.FULL;
    private static final int NULL = -11, INDEX = -12, CAST = -13, STORE = -14, SIZE = -15;
    private static final int LEAST = Integer.MIN_VALUE;
    private static final Check check = new Check();

    public static void main(String[] args) {
        lettersAndWords();
        cuts();
        laying();
        lumps();
        weeks();
        sheets();
        answersThatChangeNothing();
        check.end();
    }

    /** 16 letters, a full word 0, words 1 and 6 that fit, 40 lumps, sheets 0 .. 2 of each form, 3 lost. */
    private static LetteredRock full() {
        LetteredRock x = new LetteredRock();
        for (int n = 0; n < 16; n++) {
            x.letter(1 + n % 5, 1 + n % 9, 20 - n);
        }
        x.strip(0, 0, 21);
        x.strip(4, 4, 19);
        for (int n = 0; n < 10; n++) {
            x.spell(0, 4);
        }
        x.spell(1, 0);
        x.spell(1, 4);
        x.spell(6, 2);
        for (int n = 0; n < 40; n++) {
            x.lump(1, n % 10, 100 + n, 1);
        }
        x.set(3, 50);
        x.damp(2, true);
        x.make(2, 30);
        for (int s = 0; s < 3; s++) {
            x.sheet(s, s, 4);
            x.put(s, s, 2, 5 + s);
            x.put(s, s, 3, -1);
        }
        return x;
    }

    /** What can be asked, in some 250 calls; those that leave a finding behind come last. */
    private static List<Long> seen(LetteredRock x) {
        List<Long> answers = new ArrayList<>();
        for (int what : new int[] {0, 1, 2, 3, 4, 5, 7, 8}) {
            answers.add((long) x.count(what));
        }
        answers.add(x.digest());
        answers.add((long) x.longest());
        seenOfLetters(x, answers);
        seenOfWords(x, answers);
        for (int week = 0; week < 4; week++) {
            for (int what = 0; what < 4; what++) {
                answers.add((long) x.stock(week, 51, 15, what));
            }
        }
        seenOfSheets(x, answers);
        return answers;
    }

    private static void seenOfLetters(LetteredRock x, List<Long> answers) {
        for (int n = 0; n < 16; n++) {
            answers.add((long) x.about(n, 0));
            answers.add((long) x.about(n, 2));
            answers.add((long) x.about(n, 10));
        }
        answers.add((long) x.about(4, 14));
    }

    private static void seenOfWords(LetteredRock x, List<Long> answers) {
        for (int w = 0; w < 8; w++) {
            answers.add((long) x.wide(w));
            answers.add((long) x.spoiled(w));
            answers.add((long) x.order(w, 1));
            answers.add((long) x.cut(w, 0, 0, 0));
            answers.add((long) x.cut(w, 0, 0, 6));
        }
    }

    private static void seenOfSheets(LetteredRock x, List<Long> answers) {
        for (int s = 0; s < 4; s++) {
            answers.add((long) x.words(s));
            for (int form = 0; form < 3; form++) {
                for (int i = 0; i < 5; i++) {
                    answers.add((long) x.get(s, form, i));
                }
            }
            answers.add((long) x.lose(s));
        }
    }

    private static void refused(String call, ToLongFunction<LetteredRock> ask, long want) {
        LetteredRock asked = full();
        check.due(call, ask.applyAsLong(asked), want);
        int finding = want <= NULL && want >= SIZE ? (int) (-10 - want) : 0;
        unchanged(call, asked, finding);
    }

    /** get() answers each refusal by the least int, so the finding is told beside it. */
    private static void refusedGet(String call, ToLongFunction<LetteredRock> ask, int finding) {
        LetteredRock asked = full();
        check.due(call, ask.applyAsLong(asked), LEAST);
        unchanged(call, asked, finding);
    }

    private static void unchanged(String call, LetteredRock asked, int finding) {
        check.due("count(6) behind " + call, asked.count(6), finding);
        List<Long> before = seen(full());
        List<Long> after = seen(asked);
        for (int k = 0; k < before.size(); k++) {
            check.due("question " + k + " behind " + call, after.get(k), before.get(k));
        }
    }

    private static void lettersAndWords() {
        check.sentence(2, "They change nothing else.");
        refused("letter(0, 1, 1)", x -> x.letter(0, 1, 1), BAD);
        refused("letter(5, 10, 1)", x -> x.letter(5, 10, 1), BAD);
        refused("letter(5, 9, 100)", x -> x.letter(5, 9, 100), BAD);
        refused("letter(5, 9, 99)", x -> x.letter(5, 9, 99), FULL);
        check.sentence(3, "They change nothing else.");
        refused("strip(16, 0, 7)", x -> x.strip(16, 0, 7), BAD);
        refused("strip(0, 1, 7)", x -> x.strip(0, 1, 7), BAD);
        refused("strip(0, 0, 32)", x -> x.strip(0, 0, 32), BAD);
        check.sentence(4, "They change nothing else.");
        refused("about(0, 11)", x -> x.about(0, 11), BAD);
        check.sentence(5, "They change nothing else.");
        refused("spell(8, 0)", x -> x.spell(8, 0), BAD);
        refused("spell(1, 16)", x -> x.spell(1, 16), BAD);
        refused("spell(0, 0)", x -> x.spell(0, 0), FULL);
        check.sentence(6, "They change nothing else.");
        refused("wipe(8)", x -> x.wipe(8), BAD);
        check.sentence(7, "They change nothing else.");
        refused("slots(61)", x -> x.slots(61), BAD);
        check.sentence(8, "They change nothing else.");
        refused("gap(4)", x -> x.gap(4), BAD);
        check.sentence(9, "They change nothing else.");
        refused("wide(8)", x -> x.wide(8), BAD);
    }

    private static void cuts() {
        check.sentence(11, "They change nothing else.");
        refused("cut(1, 30, 0, 0)", x -> x.cut(1, 30, 0, 0), BAD);
        refused("cut(0, 0, 0, 0)", x -> x.cut(0, 0, 0, 0), NOT);
        check.sentence(12, "They change nothing else.");
        refused("readings(4)", x -> x.readings(4), BAD);
        refused("readings(3)", x -> x.readings(3), NULL);
        check.sentence(13, "They change nothing else.");
        refused("reading(4, 0)", x -> x.reading(4, 0), BAD);
        refused("reading(3, -1)", x -> x.reading(3, -1), BAD);
        refused("reading(3, 0)", x -> x.reading(3, 0), NULL);
        check.sentence(14, "They change nothing else.");
        refused("words(4)", x -> x.words(4), BAD);
        refused("words(3)", x -> x.words(3), NULL);
    }

    private static void laying() {
        check.sentence(15, "They change nothing else.");
        refused("order(8, 0)", x -> x.order(8, 0), BAD);
        refused("order(1, 2)", x -> x.order(1, 2), BAD);
        check.sentence(16, "They change nothing else.");
        refused("late(8)", x -> x.late(8), BAD);
        check.sentence(17, "They change nothing else.");
        refused("spoiled(8)", x -> x.spoiled(8), BAD);
    }

    private static void lumps() {
        check.sentence(18, "They change nothing else.");
        refused("set(4, 50)", x -> x.set(4, 50), BAD);
        refused("set(0, 9)", x -> x.set(0, 9), BAD);
        refused("set(3, 101)", x -> x.set(3, 101), BAD);
        check.sentence(19, "They change nothing else.");
        refused("lump(8, 0, 139, 1)", x -> x.lump(8, 0, 139, 1), BAD);
        refused("lump(1, 10, 139, 1)", x -> x.lump(1, 10, 139, 1), BAD);
        refused("lump(1, 0, 138, 1)", x -> x.lump(1, 0, 138, 1), BAD);
        refused("lump(1, 0, 139, 0)", x -> x.lump(1, 0, 139, 0), BAD);
        refused("lump(0, 0, 139, 1)", x -> x.lump(0, 0, 139, 1), NOT);
        refused("lump(1, 0, 139, 1)", x -> x.lump(1, 0, 139, 1), FULL);
        check.sentence(20, "They change nothing else.");
        refused("made(40, 0)", x -> x.made(40, 0), BAD);
        refused("made(0, 6)", x -> x.made(0, 6), BAD);
        check.sentence(21, "They change nothing else.");
        refused("trace(160)", x -> x.trace(160), BAD);
        check.sentence(22, "They change nothing else.");
        refused("recall(10, 0, 999)", x -> x.recall(10, 0, 999), BAD);
        refused("recall(0, 5, 4)", x -> x.recall(0, 5, 4), BAD);
    }

    private static void weeks() {
        check.sentence(23, "They change nothing else.");
        refused("foretold(52)", x -> x.foretold(52), BAD);
        check.sentence(24, "They change nothing else.");
        refused("damp(52, true)", x -> x.damp(52, true), BAD);
        check.sentence(25, "They change nothing else.");
        refused("make(52, 1)", x -> x.make(52, 1), BAD);
        refused("make(2, 10001)", x -> x.make(2, 10001), BAD);
        check.sentence(26, "They change nothing else.");
        refused("stock(1, 0, 0, 0)", x -> x.stock(1, 0, 0, 0), BAD);
        refused("stock(0, 0, 0, 4)", x -> x.stock(0, 0, 0, 4), BAD);
        check.sentence(27, "They change nothing else.");
        refused("ahead(1, 0, 0)", x -> x.ahead(1, 0, 0), BAD);
        refused("ahead(0, 0, 10001)", x -> x.ahead(0, 0, 10001), BAD);
    }

    private static void sheets() {
        check.sentence(28, "they change nothing but count() 6");
        refused("sheet(4, 0, 1)", x -> x.sheet(4, 0, 1), BAD);
        refused("sheet(0, 3, 1)", x -> x.sheet(0, 3, 1), BAD);
        refused("sheet(0, 0, 61)", x -> x.sheet(0, 0, 61), BAD);
        refused("sheet(0, 2, -1)", x -> x.sheet(0, 2, -1), SIZE);
        refused("sheet(3, 2, -1)", x -> x.sheet(3, 2, -1), SIZE);
        check.sentence(29, "they change nothing but count() 6");
        refused("lose(4)", x -> x.lose(4), BAD);
        refused("lose(3)", x -> x.lose(3), NULL);
        check.sentence(30, "they change nothing but count() 6");
        refused("put(4, 0, 0, 9)", x -> x.put(4, 0, 0, 9), BAD);
        refused("put(0, 3, 0, 9)", x -> x.put(0, 3, 0, 9), BAD);
        refused("put(3, 0, 0, 9)", x -> x.put(3, 0, 0, 9), NULL);
        refused("put(0, 1, 0, 9)", x -> x.put(0, 1, 0, 9), CAST);
        refused("put(0, 0, 4, 9)", x -> x.put(0, 0, 4, 9), INDEX);
        check.sentence(31, "they change nothing but count() 6");
        refusedGet("get(4, 0, 0)", x -> x.get(4, 0, 0), 0);
        refusedGet("get(0, 3, 0)", x -> x.get(0, 3, 0), 0);
        refusedGet("get(3, 0, 0)", x -> x.get(3, 0, 0), 1);
        refusedGet("get(0, 1, 0)", x -> x.get(0, 1, 0), 3);
        refusedGet("get(0, 0, 4)", x -> x.get(0, 0, 4), 2);
        check.sentence(32, "they change nothing but count() 6");
        refused("copy(0, 0, 4, 0, 1)", x -> x.copy(0, 0, 4, 0, 1), BAD);
        refused("copy(0, 0, 3, 0, 1)", x -> x.copy(0, 0, 3, 0, 1), NULL);
        refused("copy(0, 0, 1, 0, 1)", x -> x.copy(0, 0, 1, 0, 1), STORE);
        refused("copy(0, 1, 0, 0, 4)", x -> x.copy(0, 1, 0, 0, 4), INDEX);
        check.sentence(33, "They change nothing else.");
        refused("count(9)", x -> x.count(9), BAD);
    }

    /** Calls that only tell something, and calls that tell again what was told, leave all as it was. */
    private static void answersThatChangeNothing() {
        check.sentence(13, "NONE: there is no such one.");
        refused("reading(0, 999)", x -> x.reading(0, 999), LetteredRock.NONE);
        check.sentence(10, "then the least number; NONE.");
        refused("longest()", x -> x.longest(), 1);
        check.sentence(22, "How many are RECALLED.");
        refused("recall(NONE, 0, 999)", x -> x.recall(LetteredRock.NONE, 0, 999), 160);
        check.sentence(26, "3 the first WEEK that is SHORT (NONE)");
        refused("stock(0, 51, 100000, 3)", x -> x.stock(0, 51, 100000, 3), LetteredRock.NONE);
        check.sentence(32, "n items of SHEET s");
        refused("copy(0, 4, 0, 4, 0)", x -> x.copy(0, 4, 0, 4, 0), 1);
    }
}
