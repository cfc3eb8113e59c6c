import java.util.ArrayList;
import java.util.Arrays;
import java.util.Collections;
import java.util.Comparator;
import java.util.List;

/**
 * The document told a second time, as plainly as the Java library lets it be
 * told and by other ways than the class takes, to be compared with the class.
 */
final class PlainRock {
    private static final int NONE = -1, BAD = -2, NOT = -3, FULL = -4;

    private final List<int[]> letters = new ArrayList<>();
    private final List<List<Integer>> words = new ArrayList<>();
    private final List<int[]> lumps = new ArrayList<>();
    private final List<Integer> lumpOfStick = new ArrayList<>();
    private final int[] settings = {100, 10, 20, 10};
    private final boolean[] damp = new boolean[52];
    private final int[] made = new int[52];
    private final Object[] sheets = new Object[4];
    private int slots = 30;
    private int gap = 1;
    private int found = 0;

    PlainRock() {
        for (int w = 0; w < 8; w++) {
            words.add(new ArrayList<>());
        }
    }

    private static boolean out(int v, int least, int most) {
        return v < least || v > most;
    }

    /** A letter is WIDTH, MINUTES, SOFT, and its five strips from 10 on. */
    int letter(int width, int minutes, int soft) {
        if (out(width, 1, 5) || out(minutes, 1, 9) || out(soft, 1, 99)) return BAD;
        if (letters.size() == 16) return FULL;
        int[] row = new int[10 + width];
        row[0] = width;
        row[1] = minutes;
        row[2] = soft;
        letters.add(row);
        return letters.size() - 1;
    }

    int strip(int letter, int i, int bits) {
        if (out(letter, 0, letters.size() - 1) || out(bits, 0, 31)) return BAD;
        if (out(i, 0, letters.get(letter)[0] - 1)) return BAD;
        int old = letters.get(letter)[10 + i];
        letters.get(letter)[10 + i] = bits;
        return old;
    }

    int about(int letter, int what) {
        if (out(letter, 0, letters.size() - 1)) return BAD;
        int[] row = letters.get(letter);
        return out(what, 0, row.length - 1) || what > 2 && what < 10 ? BAD : row[what];
    }

    int spell(int word, int letter) {
        if (out(word, 0, 7) || out(letter, 0, letters.size() - 1)) return BAD;
        if (words.get(word).size() == 10) return FULL;
        words.get(word).add(letter);
        return words.get(word).size();
    }

    int wipe(int word) {
        if (out(word, 0, 7)) return BAD;
        int old = words.get(word).size();
        words.get(word).clear();
        return old;
    }

    int slots(int s) {
        if (out(s, 5, 60)) return BAD;
        int old = slots;
        slots = s;
        return old;
    }

    int gap(int g) {
        if (out(g, 0, 3)) return BAD;
        int old = gap;
        gap = g;
        return old;
    }

    private List<Integer> laid(int word) {
        List<Integer> stick = new ArrayList<>();
        for (int letter : words.get(word)) {
            int[] row = letters.get(letter);
            for (int k = 10; k < row.length; k++) stick.add(row[k]);
            for (int k = 0; k < gap; k++) stick.add(0);
        }
        return stick;
    }

    private boolean fits(int word) {
        return !words.get(word).isEmpty() && laid(word).size() <= slots;
    }

    /** The stick with its empty slots, or null where the word does not fit. */
    private int[] stick(int word) {
        if (!fits(word)) return null;
        int[] row = new int[slots];
        List<Integer> front = laid(word);
        for (int k = 0; k < front.size(); k++) row[k] = front.get(k);
        return row;
    }

    int wide(int word) {
        return out(word, 0, 7) ? BAD : laid(word).size();
    }

    int longest() {
        List<Integer> fitting = new ArrayList<>();
        for (int w = 0; w < 8; w++) if (fits(w)) fitting.add(w);
        Comparator<Integer> byRank = Comparator.<Integer>comparingInt(w -> -words.get(w).size())
            .thenComparingInt(w -> -laid(w).size()).thenComparingInt(w -> w);
        return fitting.stream().min(byRank).orElse(NONE);
    }

    private static int seen(int[] stick, int turn, int look, int i) {
        int strip = stick[Math.floorMod(look % 2 == 1 ? turn - i : turn + i, stick.length)];
        return look >= 2 ? Integer.reverse(strip) >>> 27 : strip;
    }

    int cut(int word, int turn, int look, int i) {
        if (out(word, 0, 7) || out(turn, 0, slots - 1) || out(look, 0, 3) || out(i, 0, slots - 1)) return BAD;
        return fits(word) ? seen(stick(word), turn, look, i) : NOT;
    }

    private List<Integer> allReadings(int s) {
        List<Integer> all = new ArrayList<>();
        for (int w = 0; w < 8; w++) {
            int[] stick = stick(w);
            for (int look = 0; stick != null && look < 4; look++) {
                for (int turn = 0; turn < slots; turn++) {
                    if (agrees(s, stick, look, turn)) all.add(1000 * w + 100 * look + turn);
                }
            }
        }
        return all;
    }

    private boolean agrees(int s, int[] stick, int look, int turn) {
        for (int i = 0; i < slots && i < sizeOf(s); i++) {
            int item = item(s, i);
            if (!out(item, 0, 31) && item != seen(stick, turn, look, i)) return false;
        }
        return true;
    }

    int readings(int s) {
        if (out(s, 0, 3)) return BAD;
        return sheets[s] == null ? found(1) : allReadings(s).size();
    }

    int reading(int s, int i) {
        if (out(s, 0, 3) || i < 0) return BAD;
        if (sheets[s] == null) return found(1);
        List<Integer> all = allReadings(s);
        return i < all.size() ? all.get(i) : NONE;
    }

    int words(int s) {
        if (out(s, 0, 3)) return BAD;
        if (sheets[s] == null) return found(1);
        return allReadings(s).stream().mapToInt(r -> 1 << r / 1000).reduce(0, (a, b) -> a | b);
    }

    private List<Integer> theOrder(int word) {
        List<Integer> places = new ArrayList<>();
        for (int p = 0; p < words.get(word).size(); p++) places.add(p);
        places.sort(Comparator.comparingInt(p -> letters.get(words.get(word).get(p))[2]));
        return places;
    }

    private List<Integer> lates(int word) {
        List<Integer> all = new ArrayList<>();
        int clock = 0;
        for (int place : theOrder(word)) {
            int[] row = letters.get(words.get(word).get(place));
            clock += row[1];
            if (clock > row[2]) all.add(clock - row[2]);
        }
        return all;
    }

    int order(int word, int i) {
        if (out(word, 0, 7) || out(i, 0, words.get(word).size() - 1)) return BAD;
        return theOrder(word).get(i);
    }

    int late(int word) {
        if (out(word, 0, 7)) return BAD;
        return lates(word).isEmpty() ? 0 : Collections.max(lates(word));
    }

    int spoiled(int word) {
        return out(word, 0, 7) ? BAD : lates(word).size();
    }

    int set(int what, int v) {
        int[][] ranges = {{10, 200}, {0, 1000}, {1, 1000}, {0, 100}};
        if (out(what, 0, 3) || out(v, ranges[what][0], ranges[what][1])) return BAD;
        int old = settings[what];
        settings[what] = v;
        return old;
    }

    int lump(int word, int hand, int day, int length) {
        if (out(word, 0, 7) || out(hand, 0, 9) || out(day, 0, 999) || out(length, 1, 200)) return BAD;
        for (int[] row : lumps) if (row[2] > day) return BAD;
        if (!fits(word)) return NOT;
        if (lumps.size() == 40) return FULL;
        int first = lumpOfStick.size();
        int rest = length * settings[0] - 2 * settings[1];
        int scrap = length * settings[0];
        int sticks = 0;
        while (rest >= settings[2]) {
            rest -= settings[2];
            scrap -= settings[2];
            sticks++;
            lumpOfStick.add(lumps.size());
        }
        lumps.add(new int[] {word, hand, day, first, sticks, scrap});
        return sticks;
    }

    int made(int lump, int what) {
        return out(lump, 0, lumps.size() - 1) || out(what, 0, 5) ? BAD : lumps.get(lump)[what];
    }

    int trace(int stick) {
        return out(stick, 0, lumpOfStick.size() - 1) ? BAD : lumpOfStick.get(stick);
    }

    int recall(int hand, int from, int to) {
        if (out(hand, -1, 9) || out(from, 0, 999) || out(to, 0, 999) || from > to) return BAD;
        return lumps.stream().filter(row -> (hand == NONE || row[1] == hand) && !out(row[2], from, to))
            .mapToInt(row -> row[4]).sum();
    }

    int foretold(int week) {
        if (out(week, 0, 51)) return BAD;
        List<Integer> wants = new ArrayList<>();
        for (int s = 0; s < 3; s++) {
            if (sheets[s] != null && week < sizeOf(s) && item(s, week) >= 0) wants.add(item(s, week));
        }
        Collections.sort(wants);
        return wants.isEmpty() ? 0 : wants.get((wants.size() - 1) / 2);
    }

    int damp(int week, boolean is) {
        if (out(week, 0, 51)) return BAD;
        damp[week] = is;
        return 1;
    }

    int make(int week, int n) {
        if (out(week, 0, 51) || out(n, 0, 10000)) return BAD;
        int old = made[week];
        made[week] = n;
        return old;
    }

    int stock(int from, int to, int begin, int what) {
        if (out(from, 0, 51) || out(to, 0, 51) || from > to || out(begin, 0, 100000) || out(what, 0, 3)) return BAD;
        long left = begin;
        long[] answers = {0, 0, 0, NONE};
        for (int week = from; week <= to; week++) {
            long had = left + made[week];
            long wanted = foretold(week);
            answers[1] += Math.max(0, wanted - had);
            if (wanted > had && answers[3] == NONE) answers[3] = week;
            left = Math.max(0, had - wanted);
            long lost = damp[week] ? left * settings[3] / 100 : 0;
            answers[2] += lost;
            left -= lost;
        }
        answers[0] = left;
        return (int) Math.min(Integer.MAX_VALUE, answers[what]);
    }

    /** Told from the last week back: what a week needs to begin with. */
    int ahead(int from, int to, int most) {
        if (out(from, 0, 51) || out(to, 0, 51) || from > to || out(most, 0, 10000)) return BAD;
        long need = 0;
        for (int week = to; week >= from; week--) {
            need = Math.max(0, need + foretold(week) - most);
        }
        return (int) Math.min(Integer.MAX_VALUE, need);
    }

    private int found(int number) {
        found = number;
        return -10 - number;
    }

    private int formOf(int s) {
        return sheets[s] instanceof byte[] ? 0 : sheets[s] instanceof short[] ? 1 : 2;
    }

    private int sizeOf(int s) {
        return java.lang.reflect.Array.getLength(sheets[s]);
    }

    private int item(int s, int i) {
        return java.lang.reflect.Array.getInt(sheets[s], i);
    }

    int sheet(int s, int form, int n) {
        if (out(s, 0, 3) || out(form, 0, 2) || n > 60) return BAD;
        if (n < 0) return found(5);
        sheets[s] = form == 0 ? new byte[n] : form == 1 ? new short[n] : new int[n];
        return n;
    }

    int lose(int s) {
        if (out(s, 0, 3)) return BAD;
        if (sheets[s] == null) return found(1);
        int old = sizeOf(s);
        sheets[s] = null;
        return old;
    }

    int put(int s, int form, int i, int v) {
        if (out(s, 0, 3) || out(form, 0, 2)) return BAD;
        if (sheets[s] == null) return found(1);
        if (formOf(s) != form) return found(3);
        if (out(i, 0, sizeOf(s) - 1)) return found(2);
        if (form == 0) ((byte[]) sheets[s])[i] = (byte) v;
        if (form == 1) ((short[]) sheets[s])[i] = (short) v;
        if (form == 2) ((int[]) sheets[s])[i] = v;
        return 1;
    }

    int get(int s, int form, int i) {
        if (out(s, 0, 3) || out(form, 0, 2)) return Integer.MIN_VALUE;
        if (sheets[s] == null || formOf(s) != form || out(i, 0, sizeOf(s) - 1)) {
            found(sheets[s] == null ? 1 : formOf(s) != form ? 3 : 2);
            return Integer.MIN_VALUE;
        }
        return item(s, i);
    }

    int copy(int s, int i, int t, int j, int n) {
        if (out(s, 0, 3) || out(t, 0, 3)) return BAD;
        if (sheets[s] == null || sheets[t] == null) return found(1);
        if (formOf(s) != formOf(t)) return found(4);
        try {
            System.arraycopy(sheets[s], i, sheets[t], j, n);
        } catch (IndexOutOfBoundsException e) {
            return found(2);
        }
        return 1;
    }

    int count(int what) {
        int fitting = 0;
        for (int w = 0; w < 8; w++) fitting += fits(w) ? 1 : 0;
        int damps = 0;
        for (boolean is : damp) damps += is ? 1 : 0;
        int scrap = lumps.stream().mapToInt(row -> row[5]).sum();
        int[] all = {letters.size(), fitting, slots, gap, lumps.size(), lumpOfStick.size(), found, scrap, damps};
        return out(what, 0, 8) ? BAD : all[what];
    }

    long digest() {
        List<Integer> parts = new ArrayList<>();
        for (int what : new int[] {0, 1, 2, 3, 4, 5, 7, 8}) parts.add(count(what));
        for (int w = 0; w < 8; w++) parts.addAll(Arrays.asList(wide(w), late(w)));
        for (int[] row : lumps) for (int v : row) parts.add(v);
        for (int week = 0; week < 52; week++) parts.add(foretold(week));
        for (int v : settings) parts.add(v);
        long h = 17;
        for (int v : parts) h = 31 * h + v;
        return h;
    }
}
