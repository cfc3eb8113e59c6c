/** Promises 33 and 34: counts and the digest. */
public final class CountsTest {
    private static final int MIN = Integer.MIN_VALUE, MAX = Integer.MAX_VALUE;
    private static final Check check = new Check();

    public static void main(String[] args) {
        counts();
        countRefusals();
        findingsAreNoted();
        digestIsAsTold();
        digestSeesEachPart();
        digestSkipsTheRest();
        check.end();
    }

    private static LetteredRock busy() {
        LetteredRock x = new LetteredRock();
        x.letter(5, 9, 4);
        x.letter(2, 3, 20);
        x.spell(0, 0);
        x.spell(0, 1);
        for (int n = 0; n < 7; n++) {
            x.spell(6, 0);
        }
        x.slots(40);
        x.gap(2);
        x.lump(0, 3, 7, 2);
        x.set(2, 33);
        x.lump(0, 4, 8, 1);
        x.damp(3, true);
        x.damp(51, true);
        x.sheet(1, 1, 52);
        x.put(1, 1, 0, 12);
        x.put(1, 1, 51, 13);
        x.get(0, 0, 0);
        return x;
    }

    private static void counts() {
        LetteredRock x = busy();
        int[] want = {2, 1, 40, 2, 2, 11, 1, 20 + 34, 2};
        for (int what = 0; what < want.length; what++) {
            check.due("count(" + what + ")", x.count(what), want[what]);
        }
        x.gap(0);
        check.due("both words fit", x.count(1), 2);
    }

    private static void countRefusals() {
        LetteredRock x = busy();
        for (int what : new int[] {-1, 9, MIN, MAX}) {
            check.due("count(" + what + ")", x.count(what), LetteredRock.BAD);
        }
    }

    private static void findingsAreNoted() {
        LetteredRock x = busy();
        long digest = x.digest();
        x.copy(1, 0, 1, 0, 53);
        check.unchanged("INDEX", x, digest, 2);
        x.put(1, 2, 0, 0);
        check.unchanged("CAST", x, digest, 3);
        x.sheet(2, 2, 1);
        digest = x.digest();
        x.copy(1, 0, 2, 0, 1);
        check.unchanged("STORE", x, digest, 4);
        x.sheet(1, 0, -1);
        check.unchanged("SIZE", x, digest, 5);
        x.lose(0);
        check.unchanged("NULL", x, digest, 1);
        x.count(9);
        check.unchanged("BAD", x, digest, 1);
    }

    private static void digestIsAsTold() {
        LetteredRock x = busy();
        long h = 17;
        for (int v : new int[] {2, 1, 40, 2, 2, 11, 54, 2}) {
            h = 31 * h + v;
        }
        int[] wideAndLate = {11, 5, 0, 0, 0, 0, 0, 0, 0, 0, 0, 0, 49, 59, 0, 0};
        for (int v : wideAndLate) {
            h = 31 * h + v;
        }
        int[] lumps = {0, 3, 7, 0, 9, 20, 0, 4, 8, 9, 2, 34};
        for (int v : lumps) {
            h = 31 * h + v;
        }
        for (int week = 0; week < 52; week++) {
            h = 31 * h + (week == 0 ? 12 : week == 51 ? 13 : 0);
        }
        for (int v : new int[] {100, 10, 33, 10}) {
            h = 31 * h + v;
        }
        check.due("digest()", x.digest(), h);
        check.due("digest() again", x.digest(), h);
    }

    private static void changed(String what, LetteredRock x, long before) {
        check.due("digest() sees " + what, x.digest() == before ? 0 : 1, 1);
    }

    private static void digestSeesEachPart() {
        LetteredRock x = busy();
        long before = x.digest();
        x.damp(9, true);
        changed("a damp week", x, before);
        for (int what = 0; what < 4; what++) {
            before = x.digest();
            x.set(what, 77);
            changed("setting " + what, x, before);
        }
        for (int week = 0; week < 52; week++) {
            before = x.digest();
            x.put(1, 1, week, 99);
            changed("the want of week " + week, x, before);
        }
        for (int word = 0; word < 8; word++) {
            before = x.digest();
            x.spell(word, 1);
            changed("a letter of word " + word, x, before);
        }
    }

    private static void digestSkipsTheRest() {
        LetteredRock x = busy();
        long before = x.digest();
        x.strip(0, 0, 31);
        x.make(5, 50);
        x.sheet(3, 2, 60);
        x.put(3, 2, 0, 9);
        x.put(1, 1, 5, -9);
        x.get(3, 0, 0);
        check.due("digest()", x.digest(), before);
    }
}
