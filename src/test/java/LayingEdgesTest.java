/** The edges of promises 15 to 17: each test holds the class to the words of the document that it names. */
public final class LayingEdgesTest {
    private static final int BAD = LetteredRock.BAD;
    private static final int MIN = Integer.MIN_VALUE, MAX = Integer.MAX_VALUE;
    private static final Check check = new Check();

    public static void main(String[] args) {
        orderTheLeastSoftFirst();
        orderOfLikeOnesTheLesserPlace();
        orderOfOneLetterManyTimes();
        orderThatIsNot();
        orderWords();
        lateBeginsAtMinuteZero();
        lateJustInTime();
        lateIsTheGreatest();
        lateOfEmptyWords();
        lateAtMost();
        lateOfWordsThatDoNotFit();
        lateWords();
        lateOfAnyOrder();
        spoiledJustInTime();
        spoiledNoneAndAll();
        spoiledWords();
        check.end();
    }

    /** One letter of each pair of MINUTES and SOFT; word 0 has them in this order. */
    private static LetteredRock withWord(int... minutesAndSoft) {
        LetteredRock x = new LetteredRock();
        for (int k = 0; k + 1 < minutesAndSoft.length; k += 2) {
            x.spell(0, x.letter(1, minutesAndSoft[k], minutesAndSoft[k + 1]));
        }
        return x;
    }

    private static void orderTheLeastSoftFirst() {
        check.sentence(15, "THE ORDER is by SOFT, the least first");
        LetteredRock x = withWord(1, 99, 9, 50, 1, 1, 9, 49);
        check.row("order(0, ?)", i -> x.order(0, i), 2, 3, 1, 0);
    }

    private static void orderOfLikeOnesTheLesserPlace() {
        check.sentence(15, "of like ones the lesser place");
        LetteredRock x = withWord(9, 7, 1, 7, 5, 6, 3, 7, 2, 6);
        check.row("order(0, ?)", i -> x.order(0, i), 2, 4, 0, 1, 3);
    }

    private static void orderOfOneLetterManyTimes() {
        check.sentence(15, "its LETTERS (places of it)");
        LetteredRock x = withWord(1, 5);
        for (int n = 1; n < 10; n++) {
            x.spell(0, 0);
        }
        check.row("order(0, ?)", i -> x.order(0, i), 0, 1, 2, 3, 4, 5, 6, 7, 8, 9);
        check.due("order(0, 10)", x.order(0, 10), BAD);
    }

    private static void orderThatIsNot() {
        check.sentence(15, "BAD: also no such one.");
        LetteredRock x = withWord(1, 5, 1, 4);
        check.each("order(1, ?) of an empty word", i -> x.order(1, i), BAD, -1, 0, 1, MIN, MAX);
        check.row("order(0, ?)", i -> x.order(0, i), 1, 0);
        check.each("order(0, ?)", i -> x.order(0, i), BAD, -1, 2, 9, 10, MIN, MAX);
        x.wipe(0);
        check.due("order(0, 0) of a wiped word", x.order(0, 0), BAD);
        x.spell(0, 1);
        check.due("order(0, 0)", x.order(0, 0), 0);
        check.due("order(0, 1), which the word had once", x.order(0, 1), BAD);
    }

    private static void orderWords() {
        check.sentence(15, "BAD: also no such one.");
        LetteredRock x = withWord(1, 5);
        x.spell(7, 0);
        check.each("order(?, 0)", w -> x.order(w, 0), 0, 0, 7);
        check.each("order(?, 0)", w -> x.order(w, 0), BAD, -1, 8, MIN, MAX);
    }

    private static void lateBeginsAtMinuteZero() {
        check.sentence(16, "one behind the other from minute 0 on, each MINUTES long");
        check.due("1 minute, soft by minute 1", withWord(1, 1).late(0), 0);
        check.due("2 minutes, soft by minute 1", withWord(2, 1).late(0), 1);
        check.due("9 minutes, soft by minute 1", withWord(9, 1).late(0), 8);
        check.due("2 minutes and 3, soft by minute 4", withWord(2, 4, 3, 4).late(0), 1);
    }

    private static void lateJustInTime() {
        check.sentence(16, "LATE is how far one ends behind its SOFT");
        check.due("ends at its SOFT", withWord(4, 4, 5, 9).late(0), 0);
        check.due("ends one behind", withWord(4, 4, 6, 9).late(0), 1);
        check.due("ends one ahead", withWord(4, 4, 4, 9).late(0), 0);
    }

    private static void lateIsTheGreatest() {
        check.sentence(16, "The greatest LATE in THE ORDER (0, if none is).");
        check.due("the first", withWord(9, 3, 1, 50).late(0), 6);
        check.due("the middle one", withWord(1, 1, 9, 2, 1, 10).late(0), 8);
        check.due("the last", withWord(1, 1, 2, 2, 9, 3).late(0), 9);
        check.due("none", withWord(1, 99, 1, 98).late(0), 0);
    }

    private static void lateOfEmptyWords() {
        check.sentence(16, "(0, if none is)");
        LetteredRock x = withWord(9, 1);
        check.row("late(1 + ?)", w -> x.late(1 + w), 0, 0, 0, 0, 0, 0, 0);
        check.due("late(0)", x.late(0), 8);
        x.wipe(0);
        check.due("late(0) behind wipe", x.late(0), 0);
    }

    private static void lateAtMost() {
        check.sentence(16, "The greatest LATE in THE ORDER");
        LetteredRock x = withWord(9, 1, 9, 1, 9, 1, 9, 1, 9, 1, 9, 1, 9, 1, 9, 1, 9, 1, 9, 1);
        check.due("ten letters of 9 minutes, soft by minute 1", x.late(0), 89);
        LetteredRock y = withWord(9, 99, 9, 99, 9, 99, 9, 99, 9, 99, 9, 99, 9, 99, 9, 99, 9, 99, 9, 99);
        check.due("ten letters of 9 minutes, soft by minute 99", y.late(0), 0);
    }

    private static void lateOfWordsThatDoNotFit() {
        check.sentence(16, "LAYING a WORD");
        LetteredRock x = withWord(9, 1, 9, 1, 9, 1);
        x.slots(5);
        check.due("late(0)", x.late(0), 26);
        check.due("spoiled(0)", x.spoiled(0), 3);
        check.due("order(0, 2)", x.order(0, 2), 2);
    }

    private static void lateWords() {
        check.sentence(16, "BAD.");
        LetteredRock x = withWord(9, 1);
        x.spell(7, 0);
        check.each("late(?)", x::late, 8, 0, 7);
        check.each("late(?)", x::late, BAD, -1, 8, MIN, MAX);
    }

    private static void lateOfAnyOrder() {
        check.sentence(16, "(No order has a lesser greatest LATE.)");
        int[][] words = {{9, 1, 1, 1}, {1, 1, 9, 1}, {5, 8, 5, 3}, {2, 9, 9, 9}, {9, 9, 9, 10}};
        for (int[] w : words) {
            int asTold = Math.max(w[0] - w[1], w[0] + w[2] - w[3]);
            int turned = Math.max(w[2] - w[3], w[0] + w[2] - w[1]);
            int least = Math.max(0, Math.min(asTold, turned));
            check.due("the least of both orders of " + java.util.Arrays.toString(w), withWord(w).late(0), least);
        }
    }

    private static void spoiledJustInTime() {
        check.sentence(17, "How many LETTERS are LATE in THE ORDER.");
        check.due("ends at its SOFT", withWord(4, 4, 5, 9).spoiled(0), 0);
        check.due("one ends one behind", withWord(4, 4, 6, 9).spoiled(0), 1);
        check.due("both end one behind", withWord(5, 4, 5, 9).spoiled(0), 2);
        check.due("the first is late, the last is not", withWord(5, 4, 1, 9).spoiled(0), 1);
    }

    private static void spoiledNoneAndAll() {
        check.sentence(17, "How many LETTERS are LATE");
        LetteredRock x = withWord(9, 1);
        check.row("spoiled(1 + ?) of empty words", w -> x.spoiled(1 + w), 0, 0, 0, 0, 0, 0, 0);
        for (int n = 1; n < 10; n++) {
            x.spell(0, 0);
        }
        check.due("all ten", x.spoiled(0), 10);
        x.wipe(0);
        check.due("behind wipe", x.spoiled(0), 0);
    }

    private static void spoiledWords() {
        check.sentence(17, "BAD.");
        LetteredRock x = withWord(9, 1);
        x.spell(7, 0);
        check.each("spoiled(?)", x::spoiled, 1, 0, 7);
        check.each("spoiled(?)", x::spoiled, BAD, -1, 8, MIN, MAX);
    }
}
