/** Promises 15 to 17: the order of laying, and what comes late in it. */
public final class LayingTest {
    private static final int BAD = LetteredRock.BAD;
    private static final int MIN = Integer.MIN_VALUE, MAX = Integer.MAX_VALUE;
    private static final Check check = new Check();

    public static void main(String[] args) {
        orderBySoftThenPlace();
        lateAndSpoiled();
        lateOfTheFullestWord();
        emptyWords();
        refusals();
        noOrderIsLessLate();
        check.end();
    }

    private static void orderRow(LetteredRock x, int word, int... want) {
        for (int i = 0; i < want.length; i++) {
            check.due("order(" + word + ", " + i + ")", x.order(word, i), want[i]);
        }
        check.due("order behind the last", x.order(word, want.length), BAD);
    }

    private static void orderBySoftThenPlace() {
        LetteredRock x = new LetteredRock();
        x.letter(1, 1, 20);
        x.letter(1, 1, 10);
        x.letter(1, 9, 20);
        for (int letter : new int[] {2, 0, 1, 0, 1, 2}) {
            x.spell(6, letter);
        }
        orderRow(x, 6, 2, 4, 0, 1, 3, 5);
        x.wipe(6);
        x.spell(6, 0);
        orderRow(x, 6, 0);
    }

    private static void lateAndSpoiled() {
        LetteredRock x = new LetteredRock();
        x.letter(1, 5, 5);
        x.letter(1, 4, 7);
        x.letter(1, 3, 11);
        x.letter(1, 1, 99);
        x.spell(0, 0);
        check.due("just in time", x.late(0), 0);
        check.due("none is spoiled", x.spoiled(0), 0);
        x.spell(0, 3);
        x.spell(0, 1);
        check.due("2 late", x.late(0), 2);
        check.due("one spoiled", x.spoiled(0), 1);
        x.spell(0, 2);
        check.due("the greatest, not the last", x.late(0), 2);
        check.due("two spoiled", x.spoiled(0), 2);
        x.slots(5);
        check.due("a word that does not fit is late too", x.late(0), 2);
        check.due("and spoiled too", x.spoiled(0), 2);
    }

    private static void lateOfTheFullestWord() {
        LetteredRock x = new LetteredRock();
        x.letter(1, 9, 1);
        for (int n = 0; n < 10; n++) {
            x.spell(1, 0);
        }
        check.due("late", x.late(1), 89);
        check.due("spoiled, each place by itself", x.spoiled(1), 10);
        orderRow(x, 1, 0, 1, 2, 3, 4, 5, 6, 7, 8, 9);
    }

    private static void emptyWords() {
        LetteredRock x = new LetteredRock();
        for (int w = 0; w < 8; w++) {
            check.due("order of an empty word", x.order(w, 0), BAD);
            check.due("late of an empty word", x.late(w), 0);
            check.due("spoiled of an empty word", x.spoiled(w), 0);
        }
    }

    private static void refusals() {
        LetteredRock x = new LetteredRock();
        x.letter(1, 1, 1);
        x.spell(0, 0);
        for (int word : new int[] {-1, 8, MIN, MAX}) {
            check.due("order(" + word + ", 0)", x.order(word, 0), BAD);
            check.due("late(" + word + ")", x.late(word), BAD);
            check.due("spoiled(" + word + ")", x.spoiled(word), BAD);
        }
        for (int i : new int[] {-1, 1, 10, MIN, MAX}) {
            check.due("order(0, " + i + ")", x.order(0, i), BAD);
        }
    }

    private static void noOrderIsLessLate() {
        java.util.Random random = new java.util.Random(5);
        for (int run = 0; run < 50; run++) {
            LetteredRock x = new LetteredRock();
            int[] minutes = new int[6];
            int[] soft = new int[6];
            for (int n = 0; n < 6; n++) {
                minutes[n] = 1 + random.nextInt(9);
                soft[n] = 1 + random.nextInt(30);
                x.letter(1, minutes[n], soft[n]);
                x.spell(0, n);
            }
            check.due("least greatest late of run " + run, x.late(0), leastLate(minutes, soft, 0, 0));
        }
    }

    private static int leastLate(int[] minutes, int[] soft, int done, int clock) {
        int least = done == (1 << minutes.length) - 1 ? 0 : MAX;
        for (int n = 0; n < minutes.length; n++) {
            if ((done & 1 << n) == 0) {
                int end = clock + minutes[n];
                int rest = leastLate(minutes, soft, done | 1 << n, end);
                least = Math.min(least, Math.max(end - soft[n], rest));
            }
        }
        return least;
    }
}
