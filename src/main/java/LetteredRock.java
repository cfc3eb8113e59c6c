import java.util.Arrays;

/**
 * Lettered rock: letters through sugar, the cuts that show them, the lumps
 * that are drawn to sticks, and the weeks that want them.
 */
public final class LetteredRock {
    public static final int NONE = -1, BAD = -2, NOT = -3, FULL = -4;

    private static final int MOST_LETTERS = 16;
    private static final int MOST_WIDTH = 5;
    private static final int MOST_STRIP = 31;
    private static final int WORD_COUNT = 8;
    private static final int MOST_IN_WORD = 10;
    private static final int LEAST_SLOTS = 5;
    private static final int MOST_SLOTS = 60;
    private static final int MOST_GAP = 3;
    private static final int LOOK_COUNT = 4;
    private static final int MOST_LUMPS = 40;
    private static final int MOST_HAND = 9;
    private static final int MOST_DAY = 999;
    private static final int WEEK_COUNT = 52;
    private static final int MOST_MADE = 10000;
    private static final int MOST_STOCK = 100000;
    private static final int SHEET_COUNT = 4;
    private static final int MOST_ITEMS = 60;
    private static final int LEAST_INT = -2147483648;
    private static final int GREATEST_INT = 2147483647;

    private static final int BYTES = 0, SHORTS = 1, INTS = 2;
    private static final int NULL = 1, INDEX = 2, CAST = 3, STORE = 4, SIZE = 5;

    private static final int DRAW = 0, TRIM = 1, STICK = 2, SOFTENS = 3;
    private static final int SETTING_COUNT = 4;
    private static final int[] LEAST_SETTING = {10, 0, 1, 0};
    private static final int[] MOST_SETTING = {200, 1000, 1000, 100};

    private final Letter[] alphabet;
    private int letterCount;
    private final Word[] wordRow;
    private final Ring ring;
    private final int[] settings;
    private final LumpBook lumpBook;
    private final boolean[] dampWeeks;
    private final int[] madeIn;
    private final StockRun stockRun;
    private final Sheet[] sheetRow;
    private int latestFinding;

    public LetteredRock() {
        alphabet = new Letter[MOST_LETTERS];
        letterCount = 0;
        wordRow = new Word[WORD_COUNT];
        for (int w = 0; w < WORD_COUNT; w++) {
            wordRow[w] = new Word();
        }
        ring = new Ring();
        settings = new int[] {100, 10, 20, 10};
        lumpBook = new LumpBook();
        dampWeeks = new boolean[WEEK_COUNT];
        madeIn = new int[WEEK_COUNT];
        stockRun = new StockRun();
        sheetRow = new Sheet[SHEET_COUNT];
        for (int s = 0; s < SHEET_COUNT; s++) {
            sheetRow[s] = new Sheet();
        }
        latestFinding = 0;
    }

    // ---- letters, words

    public int letter(int width, int minutes, int soft) {
        if (!within(width, 1, MOST_WIDTH) || !within(minutes, 1, 9) || !within(soft, 1, 99)) {
            return BAD;
        }
        if (letterCount >= MOST_LETTERS) {
            return FULL;
        }
        alphabet[letterCount] = new Letter(width, minutes, soft);
        letterCount++;
        return letterCount - 1;
    }

    public int strip(int letter, int i, int bits) {
        Letter it = letterAt(letter);
        if (it == null || !it.hasStrip(i) || !within(bits, 0, MOST_STRIP)) {
            return BAD;
        }
        int old = it.strips[i];
        it.strips[i] = bits;
        return old;
    }

    public int about(int letter, int what) {
        Letter it = letterAt(letter);
        if (it == null) {
            return BAD;
        }
        switch (what) {
            case 0:
                return it.width;
            case 1:
                return it.minutes;
            case 2:
                return it.soft;
            default:
                return what >= 10 && it.hasStrip(what - 10) ? it.strips[what - 10] : BAD;
        }
    }

    public int spell(int word, int letter) {
        Word row = wordAt(word);
        Letter it = letterAt(letter);
        if (row == null || it == null) {
            return BAD;
        }
        return row.append(it) ? row.size : FULL;
    }

    public int wipe(int word) {
        Word row = wordAt(word);
        if (row == null) {
            return BAD;
        }
        int old = row.size;
        row.size = 0;
        return old;
    }

    public int slots(int s) {
        if (!within(s, LEAST_SLOTS, MOST_SLOTS)) {
            return BAD;
        }
        int old = ring.slotCount;
        ring.slotCount = s;
        return old;
    }

    public int gap(int g) {
        if (!within(g, 0, MOST_GAP)) {
            return BAD;
        }
        int old = ring.gapWidth;
        ring.gapWidth = g;
        return old;
    }

    public int wide(int word) {
        Word row = wordAt(word);
        return row == null ? BAD : ring.widthOf(row);
    }

    public int longest() {
        int best = NONE;
        for (int w = 0; w < WORD_COUNT; w++) {
            if (ring.fits(wordRow[w]) && (best == NONE || isLonger(wordRow[w], wordRow[best]))) {
                best = w;
            }
        }
        return best;
    }

    private boolean isLonger(Word row, Word other) {
        if (row.size != other.size) {
            return row.size > other.size;
        }
        return ring.widthOf(row) > ring.widthOf(other);
    }

    // ---- cuts

    public int cut(int word, int turn, int look, int i) {
        Word row = wordAt(word);
        int last = ring.slotCount - 1;
        if (row == null || !within(turn, 0, last) || !within(look, 0, LOOK_COUNT - 1) || !within(i, 0, last)) {
            return BAD;
        }
        if (!ring.fits(row)) {
            return NOT;
        }
        ring.lay(row);
        return ring.seen(turn, look, i);
    }

    public int readings(int s) {
        int trouble = troubleOfSheet(s);
        if (trouble != 0) {
            return trouble;
        }
        int sum = 0;
        for (int w = 0; w < WORD_COUNT; w++) {
            sum += readingsOfWord(w, sheetRow[s]);
        }
        return sum;
    }

    public int reading(int s, int i) {
        if (i < 0) {
            return BAD;
        }
        int trouble = troubleOfSheet(s);
        if (trouble != 0) {
            return trouble;
        }
        int remaining = i;
        for (int w = 0; w < WORD_COUNT; w++) {
            int here = readingsOfWord(w, sheetRow[s]);
            if (remaining < here) {
                return 1000 * w + ring.readingOf(sheetRow[s], remaining);
            }
            remaining -= here;
        }
        return NONE;
    }

    public int words(int s) {
        int trouble = troubleOfSheet(s);
        if (trouble != 0) {
            return trouble;
        }
        int bits = 0;
        for (int w = 0; w < WORD_COUNT; w++) {
            if (readingsOfWord(w, sheetRow[s]) > 0) {
                bits |= 1 << w;
            }
        }
        return bits;
    }

    /** Leaves the word laid in the ring, if it fits. */
    private int readingsOfWord(int word, Sheet sheet) {
        if (!ring.fits(wordRow[word])) {
            return 0;
        }
        ring.lay(wordRow[word]);
        return ring.countReadings(sheet);
    }

    // ---- laying

    public int order(int word, int i) {
        Word row = wordAt(word);
        if (row == null || !within(i, 0, row.size - 1)) {
            return BAD;
        }
        return row.placeInOrder(i);
    }

    public int late(int word) {
        Word row = wordAt(word);
        return row == null ? BAD : row.greatestLate();
    }

    public int spoiled(int word) {
        Word row = wordAt(word);
        return row == null ? BAD : row.countLate();
    }

    // ---- lumps, sticks

    public int set(int what, int v) {
        if (!within(what, 0, SETTING_COUNT - 1) || !within(v, LEAST_SETTING[what], MOST_SETTING[what])) {
            return BAD;
        }
        int old = settings[what];
        settings[what] = v;
        return old;
    }

    public int lump(int word, int hand, int day, int length) {
        Word row = wordAt(word);
        if (row == null || !within(hand, 0, MOST_HAND) || !within(length, 1, 200)) {
            return BAD;
        }
        if (!within(day, lumpBook.latestDay(), MOST_DAY)) {
            return BAD;
        }
        if (!ring.fits(row)) {
            return NOT;
        }
        if (lumpBook.isFull()) {
            return FULL;
        }
        int drawn = length * settings[DRAW];
        int sticks = sticksOf(drawn);
        int scrap = drawn - sticks * settings[STICK];
        lumpBook.enter(new Lump(word, hand, day, lumpBook.stickCount, sticks, scrap));
        return sticks;
    }

    private int sticksOf(int drawn) {
        int left = drawn - 2 * settings[TRIM];
        int stick = settings[STICK];
        return left < 0 || stick < 1 ? 0 : left / stick;
    }

    public int made(int lump, int what) {
        Lump it = lumpBook.lumpAt(lump);
        if (it == null) {
            return BAD;
        }
        switch (what) {
            case 0:
                return it.word;
            case 1:
                return it.hand;
            case 2:
                return it.day;
            case 3:
                return it.firstStick;
            case 4:
                return it.sticks;
            case 5:
                return it.scrap;
            default:
                return BAD;
        }
    }

    public int trace(int stick) {
        int lump = lumpBook.lumpOfStick(stick);
        return lump == NONE ? BAD : lump;
    }

    public int recall(int hand, int from, int to) {
        if (hand != NONE && !within(hand, 0, MOST_HAND)) {
            return BAD;
        }
        if (!isSpan(from, to, MOST_DAY)) {
            return BAD;
        }
        return lumpBook.countSticks(hand, from, to);
    }

    // ---- weeks

    public int foretold(int week) {
        if (!isWeek(week)) {
            return BAD;
        }
        int a = sheetRow[0].wantAt(week);
        int b = sheetRow[1].wantAt(week);
        int c = sheetRow[2].wantAt(week);
        int middle = Math.max(Math.min(a, b), Math.min(Math.max(a, b), c));
        // A year without a want is NONE and sorts first, so of two wants the lesser
        // is in the middle of the three; a single want is the greatest of them.
        if (middle != NONE) {
            return middle;
        }
        return Math.max(0, Math.max(a, Math.max(b, c)));
    }

    public int damp(int week, boolean is) {
        if (!isWeek(week)) {
            return BAD;
        }
        dampWeeks[week] = is;
        return 1;
    }

    public int make(int week, int n) {
        if (!isWeek(week) || !within(n, 0, MOST_MADE)) {
            return BAD;
        }
        int old = madeIn[week];
        madeIn[week] = n;
        return old;
    }

    public int stock(int from, int to, int begin, int what) {
        if (!isSpan(from, to, WEEK_COUNT - 1) || !within(begin, 0, MOST_STOCK) || !within(what, 0, 3)) {
            return BAD;
        }
        stockRun.beginWith(begin);
        for (int week = from; week <= to; week++) {
            stockRun.supply(week, madeIn[week], foretold(week));
            if (dampWeeks[week]) {
                stockRun.soften(settings[SOFTENS]);
            }
        }
        switch (what) {
            case 0:
                return atMostInt(stockRun.left);
            case 1:
                return atMostInt(stockRun.lacking);
            case 2:
                return atMostInt(stockRun.lost);
            default:
                return stockRun.firstShort;
        }
    }

    public int ahead(int from, int to, int most) {
        if (!isSpan(from, to, WEEK_COUNT - 1) || !within(most, 0, MOST_MADE)) {
            return BAD;
        }
        long wantedBeyondMade = 0;
        long least = 0;
        for (int week = from; week <= to; week++) {
            wantedBeyondMade += foretold(week) - most;
            least = Math.max(least, wantedBeyondMade);
        }
        return atMostInt(least);
    }

    // ---- sheets

    public int sheet(int s, int form, int n) {
        if (!isSheet(s) || !isForm(form) || n > MOST_ITEMS) {
            return BAD;
        }
        if (n < 0) {
            return finding(SIZE);
        }
        sheetRow[s].renew(form, n);
        return n;
    }

    public int lose(int s) {
        int trouble = troubleOfSheet(s);
        if (trouble != 0) {
            return trouble;
        }
        sheetRow[s].isLost = true;
        return sheetRow[s].size;
    }

    public int put(int s, int form, int i, int v) {
        int trouble = troubleOfItem(s, form, i);
        if (trouble != 0) {
            return trouble;
        }
        sheetRow[s].write(i, v);
        return 1;
    }

    public int get(int s, int form, int i) {
        return troubleOfItem(s, form, i) != 0 ? LEAST_INT : sheetRow[s].items[i];
    }

    public int copy(int s, int i, int t, int j, int n) {
        if (!isSheet(s) || !isSheet(t)) {
            return BAD;
        }
        Sheet source = sheetRow[s];
        Sheet target = sheetRow[t];
        if (source.isLost || target.isLost) {
            return finding(NULL);
        }
        if (source.form != target.form) {
            return finding(STORE);
        }
        if (!source.hasRun(i, n) || !target.hasRun(j, n)) {
            return finding(INDEX);
        }
        System.arraycopy(source.items, i, target.items, j, n);
        return 1;
    }

    public int count(int what) {
        switch (what) {
            case 0:
                return letterCount;
            case 1:
                return countFitting();
            case 2:
                return ring.slotCount;
            case 3:
                return ring.gapWidth;
            case 4:
                return lumpBook.size;
            case 5:
                return lumpBook.stickCount;
            case 6:
                return latestFinding;
            case 7:
                return lumpBook.scrap;
            case 8:
                return countDamp();
            default:
                return BAD;
        }
    }

    public long digest() {
        long h = 17;
        for (int what = 0; what <= 8; what++) {
            if (what != 6) {
                h = 31 * h + count(what);
            }
        }
        for (int w = 0; w < WORD_COUNT; w++) {
            h = 31 * h + wide(w);
            h = 31 * h + late(w);
        }
        for (int k = 0; k < lumpBook.size; k++) {
            for (int what = 0; what <= 5; what++) {
                h = 31 * h + made(k, what);
            }
        }
        for (int week = 0; week < WEEK_COUNT; week++) {
            h = 31 * h + foretold(week);
        }
        for (int what = 0; what < SETTING_COUNT; what++) {
            h = 31 * h + settings[what];
        }
        return h;
    }

    private int countFitting() {
        int sum = 0;
        for (int w = 0; w < WORD_COUNT; w++) {
            if (ring.fits(wordRow[w])) {
                sum++;
            }
        }
        return sum;
    }

    private int countDamp() {
        int sum = 0;
        for (int week = 0; week < WEEK_COUNT; week++) {
            if (dampWeeks[week]) {
                sum++;
            }
        }
        return sum;
    }

    // ---- what calls have in common

    private static boolean within(int v, int least, int most) {
        return v >= least && v <= most;
    }

    private static boolean isSpan(int from, int to, int most) {
        return from >= 0 && from <= to && to <= most;
    }

    private static boolean isWeek(int week) {
        return within(week, 0, WEEK_COUNT - 1);
    }

    private static boolean isSheet(int s) {
        return within(s, 0, SHEET_COUNT - 1);
    }

    private static boolean isForm(int form) {
        return within(form, BYTES, INTS);
    }

    private static int atMostInt(long v) {
        return (int) Math.min(v, (long) GREATEST_INT);
    }

    private Letter letterAt(int letter) {
        return within(letter, 0, letterCount - 1) ? alphabet[letter] : null;
    }

    private Word wordAt(int word) {
        return within(word, 0, WORD_COUNT - 1) ? wordRow[word] : null;
    }

    private int finding(int number) {
        latestFinding = number;
        return -10 - number;
    }

    /** 0, or the refusal of a call that needs a sheet that is not lost. */
    private int troubleOfSheet(int s) {
        if (!isSheet(s)) {
            return BAD;
        }
        return sheetRow[s].isLost ? finding(NULL) : 0;
    }

    /** 0, or the refusal of a call that needs an item of a sheet of a form. */
    private int troubleOfItem(int s, int form, int i) {
        if (!isForm(form)) {
            return BAD;
        }
        int trouble = troubleOfSheet(s);
        if (trouble != 0) {
            return trouble;
        }
        if (sheetRow[s].form != form) {
            return finding(CAST);
        }
        return sheetRow[s].hasItem(i) ? 0 : finding(INDEX);
    }

    private static final class Letter {
        final int width;
        final int minutes;
        final int soft;
        final int[] strips;

        Letter(int width, int minutes, int soft) {
            this.width = width;
            this.minutes = minutes;
            this.soft = soft;
            strips = new int[MOST_WIDTH];
        }

        boolean hasStrip(int i) {
            return within(i, 0, width - 1);
        }
    }

    private static final class Word {
        final Letter[] letters = new Letter[MOST_IN_WORD];
        int size = 0;

        boolean append(Letter letter) {
            if (size >= MOST_IN_WORD) {
                return false;
            }
            letters[size] = letter;
            size++;
            return true;
        }

        boolean isLaidBefore(int place, int other) {
            int soft = letters[place].soft;
            int otherSoft = letters[other].soft;
            return soft < otherSoft || (soft == otherSoft && place < other);
        }

        int placeInOrder(int i) {
            for (int place = 0; place < size; place++) {
                if (rankOf(place) == i) {
                    return place;
                }
            }
            return BAD;
        }

        int rankOf(int place) {
            int rank = 0;
            for (int other = 0; other < size; other++) {
                if (isLaidBefore(other, place)) {
                    rank++;
                }
            }
            return rank;
        }

        /** Below 0, if the letter is laid with minutes to spare. */
        int lateAt(int place) {
            int end = letters[place].minutes;
            for (int other = 0; other < size; other++) {
                if (isLaidBefore(other, place)) {
                    end += letters[other].minutes;
                }
            }
            return end - letters[place].soft;
        }

        int greatestLate() {
            int greatest = 0;
            for (int place = 0; place < size; place++) {
                greatest = Math.max(greatest, lateAt(place));
            }
            return greatest;
        }

        int countLate() {
            int sum = 0;
            for (int place = 0; place < size; place++) {
                if (lateAt(place) > 0) {
                    sum++;
                }
            }
            return sum;
        }
    }

    /** The slots round a stick, with the strips of the word that was laid last. */
    private static final class Ring {
        final int[] laid = new int[MOST_SLOTS];
        int slotCount = 30;
        int gapWidth = 1;

        int widthOf(Word word) {
            int sum = 0;
            for (int place = 0; place < word.size; place++) {
                sum += word.letters[place].width + gapWidth;
            }
            return sum;
        }

        boolean fits(Word word) {
            return word.size > 0 && widthOf(word) <= slotCount;
        }

        void lay(Word word) {
            Arrays.fill(laid, 0);
            int start = 0;
            for (int place = 0; place < word.size; place++) {
                Letter letter = word.letters[place];
                for (int k = 0; k < letter.width && start + k < MOST_SLOTS; k++) {
                    laid[start + k] = letter.strips[k];
                }
                start += letter.width + gapWidth;
            }
        }

        int seen(int turn, int look, int i) {
            int strip = laid[slotSeen(turn, look, i)];
            return (look & 2) == 0 ? strip : upsideDown(strip);
        }

        /** Turn and place are below the slots, so one step round is enough. */
        int slotSeen(int turn, int look, int i) {
            if ((look & 1) != 0) {
                return turn >= i ? turn - i : turn - i + slotCount;
            }
            int slot = turn + i;
            return slot < slotCount ? slot : slot - slotCount;
        }

        static int upsideDown(int strip) {
            int flipped = 0;
            for (int bit = 0; bit < 5; bit++) {
                flipped = (flipped << 1) | ((strip >> bit) & 1);
            }
            return flipped;
        }

        boolean agrees(Sheet sheet, int look, int turn) {
            int told = Math.min(slotCount, sheet.size);
            for (int i = 0; i < told; i++) {
                int item = sheet.items[i];
                if (within(item, 0, MOST_STRIP) && item != seen(turn, look, i)) {
                    return false;
                }
            }
            return true;
        }

        int countReadings(Sheet sheet) {
            int sum = 0;
            for (int look = 0; look < LOOK_COUNT; look++) {
                for (int turn = 0; turn < slotCount; turn++) {
                    if (agrees(sheet, look, turn)) {
                        sum++;
                    }
                }
            }
            return sum;
        }

        /** The look and the turn of the reading that has so many before it. */
        int readingOf(Sheet sheet, int before) {
            int passed = 0;
            for (int look = 0; look < LOOK_COUNT; look++) {
                for (int turn = 0; turn < slotCount; turn++) {
                    if (agrees(sheet, look, turn)) {
                        if (passed == before) {
                            return 100 * look + turn;
                        }
                        passed++;
                    }
                }
            }
            return NONE;
        }
    }

    private static final class Lump {
        final int word;
        final int hand;
        final int day;
        final int firstStick;
        final int sticks;
        final int scrap;

        Lump(int word, int hand, int day, int firstStick, int sticks, int scrap) {
            this.word = word;
            this.hand = hand;
            this.day = day;
            this.firstStick = firstStick;
            this.sticks = sticks;
            this.scrap = scrap;
        }

        boolean gave(int stick) {
            return stick >= firstStick && stick < firstStick + sticks;
        }

        boolean isRecalled(int byHand, int from, int to) {
            return (byHand == NONE || byHand == hand) && within(day, from, to);
        }
    }

    private static final class LumpBook {
        final Lump[] lumps = new Lump[MOST_LUMPS];
        int size = 0;
        int stickCount = 0;
        int scrap = 0;

        boolean isFull() {
            return size >= MOST_LUMPS;
        }

        void enter(Lump lump) {
            if (isFull()) {
                return;
            }
            lumps[size] = lump;
            size++;
            stickCount += lump.sticks;
            scrap += lump.scrap;
        }

        Lump lumpAt(int lump) {
            return within(lump, 0, size - 1) ? lumps[lump] : null;
        }

        int latestDay() {
            return size == 0 ? 0 : lumps[size - 1].day;
        }

        int lumpOfStick(int stick) {
            for (int k = 0; k < size; k++) {
                if (lumps[k].gave(stick)) {
                    return k;
                }
            }
            return NONE;
        }

        int countSticks(int hand, int from, int to) {
            int sum = 0;
            for (int k = 0; k < size; k++) {
                if (lumps[k].isRecalled(hand, from, to)) {
                    sum += lumps[k].sticks;
                }
            }
            return sum;
        }
    }

    /** Stock on its way through weeks; one is kept and begun anew by each call. */
    private static final class StockRun {
        long left;
        long lacking;
        long lost;
        int firstShort;

        void beginWith(int stock) {
            left = stock;
            lacking = 0;
            lost = 0;
            firstShort = NONE;
        }

        void supply(int week, int made, int wanted) {
            left += made - wanted;
            if (left >= 0) {
                return;
            }
            lacking -= left;
            left = 0;
            if (firstShort == NONE) {
                firstShort = week;
            }
        }

        void soften(int hundredths) {
            long gone = left * hundredths / 100;
            left -= gone;
            lost += gone;
        }
    }

    /** A row of items; its room is made once and used again for each new row. */
    private static final class Sheet {
        final int[] items = new int[MOST_ITEMS];
        boolean isLost = true;
        int form = BYTES;
        int size = 0;

        void renew(int newForm, int newSize) {
            isLost = false;
            form = newForm;
            size = newSize;
            Arrays.fill(items, 0);
        }

        boolean hasItem(int i) {
            return within(i, 0, size - 1);
        }

        boolean hasRun(int start, int n) {
            return start >= 0 && n >= 0 && start <= size && n <= size - start;
        }

        void write(int i, int v) {
            switch (form) {
                case BYTES:
                    items[i] = (byte) v;
                    break;
                case SHORTS:
                    items[i] = (short) v;
                    break;
                default:
                    items[i] = v;
                    break;
            }
        }

        int wantAt(int week) {
            return isLost || !hasItem(week) || items[week] < 0 ? NONE : items[week];
        }
    }
}
