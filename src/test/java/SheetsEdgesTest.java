/** The edges of promises 28 to 32: each test holds the class to the words of the document that it names. */
public final class SheetsEdgesTest {
    private static final int BAD = LetteredRock.BAD;
    private static final int NULL = -11, INDEX = -12, CAST = -13, STORE = -14, SIZE = -15;
    private static final int MIN = Integer.MIN_VALUE, MAX = Integer.MAX_VALUE;
    private static final Check check = new Check();

    public static void main(String[] args) {
        sheetNumbers();
        sheetForms();
        sheetFrom0To60Items();
        sheetItemsAre0AtFirst();
        sheetBelow0();
        sheetIsBadAheadOfSize();
        loseAnswersHowManyItHad();
        loseRefused();
        putNumbersAndForms();
        putTheLowestBitsOfBytes();
        putTheLowestBitsOfShorts();
        putAllBitsOfInts();
        putNull();
        putCast();
        putIndex();
        putTheFirstThatFits();
        getBad();
        getFindings();
        getTheFirstThatFits();
        getTheLeastIntThatIsThere();
        copyWithinOneSheet();
        copyWholeRows();
        copyNothing();
        copyNumbers();
        copyNull();
        copyStore();
        copyBelow0();
        copyNotSoMany();
        copyTheFirstThatFits();
        check.end();
    }

    private static void fill(LetteredRock x, int s, int form, int... row) {
        x.sheet(s, form, row.length);
        for (int i = 0; i < row.length; i++) {
            x.put(s, form, i, row[i]);
        }
    }

    private static void rowDue(LetteredRock x, int s, int form, int... want) {
        check.row("get(" + s + ", " + form + ", ?)", i -> x.get(s, form, i), want);
    }

    private static void sheetNumbers() {
        check.sentence(28, "SHEETS 0 .. 3");
        LetteredRock x = new LetteredRock();
        check.each("sheet(?, 0, 1)", s -> x.sheet(s, 0, 1), BAD, -1, 4, MIN, MAX);
        check.each("sheet(?, 0, 1)", s -> x.sheet(s, 0, 1), 1, 0, 1, 2, 3);
    }

    private static void sheetForms() {
        check.sentence(28, "FORM: 0 bytes, 1 shorts, 2 ints");
        LetteredRock x = new LetteredRock();
        check.each("sheet(0, ?, 1)", form -> x.sheet(0, form, 1), BAD, -1, 3, MIN, MAX);
        check.due("it is lost still", x.lose(0), NULL);
        check.each("sheet(0, ?, 1)", form -> x.sheet(0, form, 1), 1, 0, 1, 2);
    }

    private static void sheetFrom0To60Items() {
        check.sentence(28, "BAD: SHEET, FORM, above 60");
        for (int form = 0; form < 3; form++) {
            int it = form;
            LetteredRock x = new LetteredRock();
            check.each("sheet(0, " + it + ", ?)", n -> x.sheet(0, it, n), BAD, 61, MAX);
            check.due("it is lost still", x.lose(0), NULL);
            check.due("sheet(0, " + it + ", 60)", x.sheet(0, it, 60), 60);
            check.due("its last item", x.put(0, it, 59, 1), 1);
            check.due("no item behind", x.put(0, it, 60, 1), INDEX);
            check.due("sheet(0, " + it + ", 0)", x.sheet(0, it, 0), 0);
            check.due("no item at all", x.put(0, it, 0, 1), INDEX);
            check.due("a row of no items is not lost", x.lose(0), 0);
        }
    }

    private static void sheetItemsAre0AtFirst() {
        check.sentence(28, "of 0 to 60 items (0 at first)");
        LetteredRock x = new LetteredRock();
        fill(x, 0, 2, 7, 8, 9);
        check.due("a row of the same form", x.sheet(0, 2, 3), 3);
        rowDue(x, 0, 2, 0, 0, 0, MIN);
        fill(x, 0, 2, 7, 8, 9);
        check.due("a shorter row", x.sheet(0, 2, 1), 1);
        rowDue(x, 0, 2, 0, MIN);
        check.due("a longer row of another form", x.sheet(0, 1, 4), 4);
        rowDue(x, 0, 1, 0, 0, 0, 0, MIN);
        fill(x, 0, 0, 7, 8, 9);
        x.lose(0);
        check.due("a row behind lose", x.sheet(0, 0, 3), 3);
        rowDue(x, 0, 0, 0, 0, 0, MIN);
    }

    private static void sheetBelow0() {
        check.sentence(28, "5 SIZE: below 0");
        LetteredRock x = new LetteredRock();
        fill(x, 1, 1, 7, 8);
        check.each("sheet(1, 0, ?)", n -> x.sheet(1, 0, n), SIZE, -1, -61, MIN);
        check.due("count(6)", x.count(6), 5);
        rowDue(x, 1, 1, 7, 8);
        check.due("a lost sheet", x.sheet(0, 0, -1), SIZE);
        check.due("it is lost still", x.lose(0), NULL);
    }

    private static void sheetIsBadAheadOfSize() {
        check.sentence(28, "above 60; SIZE.");
        LetteredRock x = new LetteredRock();
        check.each("sheet(?, 0, -1)", s -> x.sheet(s, 0, -1), BAD, -1, 4, MIN, MAX);
        check.each("sheet(0, ?, -1)", form -> x.sheet(0, form, -1), BAD, -1, 3, MIN, MAX);
        check.due("BAD is no finding", x.count(6), 0);
        check.due("sheet(0, 0, -1)", x.sheet(0, 0, -1), SIZE);
    }

    private static void loseAnswersHowManyItHad() {
        check.sentence(29, "It is LOST: how many items it had.");
        LetteredRock x = new LetteredRock();
        x.sheet(0, 0, 0);
        x.sheet(3, 2, 60);
        check.due("none", x.lose(0), 0);
        check.due("sixty", x.lose(3), 60);
        check.due("put behind lose", x.put(3, 2, 0, 0), NULL);
        check.due("readings behind lose", x.readings(3), NULL);
    }

    private static void loseRefused() {
        check.sentence(29, "BAD; NULL.");
        LetteredRock x = new LetteredRock();
        check.each("lose(?)", x::lose, BAD, -1, 4, MIN, MAX);
        check.due("BAD is no finding", x.count(6), 0);
        check.each("lose(?)", x::lose, NULL, 0, 1, 2, 3);
        check.due("NULL is told", x.count(6), 1);
        x.sheet(2, 0, 5);
        x.lose(2);
        check.due("lost twice", x.lose(2), NULL);
    }

    private static void putNumbersAndForms() {
        check.sentence(30, "BAD; NULL; CAST; INDEX.");
        LetteredRock x = new LetteredRock();
        fill(x, 0, 1, 7);
        check.each("put(?, 1, 0, 9)", s -> x.put(s, 1, 0, 9), BAD, -1, 4, MIN, MAX);
        check.each("put(0, ?, 0, 9)", form -> x.put(0, form, 0, 9), BAD, -1, 3, MIN, MAX);
        check.due("BAD is no finding", x.count(6), 0);
        rowDue(x, 0, 1, 7);
        check.each("put(0, 1, 0, ?)", v -> x.put(0, 1, 0, v), 1, 0, -1, MIN, MAX);
    }

    private static void putDue(int form, int v, int want) {
        LetteredRock x = new LetteredRock();
        x.sheet(0, form, 1);
        check.due("put(0, " + form + ", 0, " + v + ")", x.put(0, form, 0, v), 1);
        check.due("get behind put of " + v, x.get(0, form, 0), want);
    }

    private static void putTheLowestBitsOfBytes() {
        check.sentence(30, "becomes v (the lowest bits that it has)");
        int[][] rows = {{127, 127}, {128, -128}, {255, -1}, {256, 0}, {257, 1}, {-128, -128}, {-129, 127},
            {-256, 0}, {MAX, -1}, {MIN, 0}};
        for (int[] row : rows) {
            putDue(0, row[0], row[1]);
        }
    }

    private static void putTheLowestBitsOfShorts() {
        check.sentence(30, "becomes v (the lowest bits that it has)");
        int[][] rows = {{128, 128}, {32767, 32767}, {32768, -32768}, {65535, -1}, {65536, 0}, {65537, 1},
            {-32768, -32768}, {-32769, 32767}, {-65536, 0}, {MAX, -1}, {MIN, 0}};
        for (int[] row : rows) {
            putDue(1, row[0], row[1]);
        }
    }

    private static void putAllBitsOfInts() {
        check.sentence(30, "becomes v (the lowest bits that it has)");
        for (int v : new int[] {0, -1, 65536, -65537, MAX, MAX - 1, MIN, MIN + 1}) {
            putDue(2, v, v);
        }
    }

    private static void putNull() {
        check.sentence(30, "1 NULL: the SHEET is LOST");
        LetteredRock x = new LetteredRock();
        check.each("put(?, 0, 0, 1)", s -> x.put(s, 0, 0, 1), NULL, 0, 1, 2, 3);
        check.due("count(6)", x.count(6), 1);
        x.sheet(1, 0, 1);
        check.due("put(1, 0, 0, 1)", x.put(1, 0, 0, 1), 1);
    }

    private static void putCast() {
        check.sentence(30, "3 CAST: it has another FORM");
        for (int form = 0; form < 3; form++) {
            for (int other = 0; other < 3; other++) {
                LetteredRock x = new LetteredRock();
                x.sheet(0, form, 1);
                int want = form == other ? 1 : CAST;
                check.due("a row of form " + form + " as of " + other, x.put(0, other, 0, 1), want);
                check.due("count(6)", x.count(6), form == other ? 0 : 3);
                check.due("the item", x.get(0, form, 0), form == other ? 1 : 0);
            }
        }
    }

    private static void putIndex() {
        check.sentence(30, "2 INDEX: there is no such item");
        LetteredRock x = new LetteredRock();
        fill(x, 0, 0, 7, 8);
        check.each("put(0, 0, ?, 9)", i -> x.put(0, 0, i, 9), INDEX, -1, 2, 59, 60, MIN, MAX);
        check.due("count(6)", x.count(6), 2);
        rowDue(x, 0, 0, 7, 8);
        check.each("put(0, 0, ?, 9)", i -> x.put(0, 0, i, 9), 1, 0, 1);
        x.sheet(0, 0, 1);
        check.due("an item that a longer row had", x.put(0, 0, 1, 9), INDEX);
    }

    private static void putTheFirstThatFits() {
        check.sentence(30, "BAD; NULL; CAST; INDEX.");
        LetteredRock x = new LetteredRock();
        x.sheet(0, 0, 1);
        check.due("no such form, lost, no item", x.put(1, 3, -1, 0), BAD);
        check.due("lost, no item", x.put(1, 2, -1, 0), NULL);
        check.due("another form, no item", x.put(0, 2, -1, 0), CAST);
        check.due("no item", x.put(0, 0, -1, 0), INDEX);
    }

    private static void getBad() {
        check.sentence(31, "BAD: the least int");
        LetteredRock x = new LetteredRock();
        fill(x, 0, 1, 7);
        check.each("get(?, 1, 0)", s -> x.get(s, 1, 0), MIN, -1, 4, MIN, MAX);
        check.each("get(0, ?, 0)", form -> x.get(0, form, 0), MIN, -1, 3, MIN, MAX);
        check.due("BAD is no finding", x.count(6), 0);
        check.due("get(0, 1, 0)", x.get(0, 1, 0), 7);
    }

    private static void getFindings() {
        check.sentence(31, "so are NULL, CAST, INDEX (count() 6 tells)");
        LetteredRock x = new LetteredRock();
        fill(x, 0, 1, 7, 8);
        check.each("get(?, 1, 0) of a lost sheet", s -> x.get(s, 1, 0), MIN, 1, 2, 3);
        check.due("count(6)", x.count(6), 1);
        check.each("get(0, ?, 0) of another form", form -> x.get(0, form, 0), MIN, 0, 2);
        check.due("count(6)", x.count(6), 3);
        check.each("get(0, 1, ?) of no item", i -> x.get(0, 1, i), MIN, -1, 2, 59, 60, MIN, MAX);
        check.due("count(6)", x.count(6), 2);
        rowDue(x, 0, 1, 7, 8);
    }

    private static void getTheFirstThatFits() {
        check.sentence(31, "BAD: the least int; so are NULL, CAST, INDEX");
        LetteredRock x = new LetteredRock();
        x.sheet(0, 0, 1);
        x.get(1, 3, -1);
        check.due("no such form, lost, no item: count(6)", x.count(6), 0);
        x.get(1, 2, -1);
        check.due("lost, no item: count(6)", x.count(6), 1);
        x.get(0, 2, -1);
        check.due("another form, no item: count(6)", x.count(6), 3);
        x.get(0, 0, -1);
        check.due("no item: count(6)", x.count(6), 2);
    }

    private static void getTheLeastIntThatIsThere() {
        check.sentence(31, "Item i of it.");
        LetteredRock x = new LetteredRock();
        fill(x, 0, 2, MIN, MAX);
        rowDue(x, 0, 2, MIN, MAX);
        check.due("an item that is the least int is no finding", x.count(6), 0);
    }

    private static void copyWithinOneSheet() {
        check.sentence(32, "(perhaps s, as they were)");
        LetteredRock x = new LetteredRock();
        fill(x, 0, 0, 1, 2, 3, 4, 5);
        check.due("one on", x.copy(0, 0, 0, 1, 4), 1);
        rowDue(x, 0, 0, 1, 1, 2, 3, 4);
        fill(x, 0, 0, 1, 2, 3, 4, 5);
        check.due("one back", x.copy(0, 1, 0, 0, 4), 1);
        rowDue(x, 0, 0, 2, 3, 4, 5, 5);
        fill(x, 0, 0, 1, 2, 3, 4, 5);
        check.due("two on, three of them", x.copy(0, 0, 0, 2, 3), 1);
        rowDue(x, 0, 0, 1, 2, 1, 2, 3);
        check.due("all in place", x.copy(0, 0, 0, 0, 5), 1);
        rowDue(x, 0, 0, 1, 2, 1, 2, 3);
    }

    private static void copyWholeRows() {
        check.sentence(32, "n items of SHEET s, from i on, come to SHEET t");
        LetteredRock x = new LetteredRock();
        x.sheet(0, 2, 60);
        x.put(0, 2, 0, MIN);
        x.put(0, 2, 59, MAX);
        x.sheet(3, 2, 60);
        check.due("sixty", x.copy(0, 0, 3, 0, 60), 1);
        check.due("the first", x.get(3, 2, 0), MIN);
        check.due("the last", x.get(3, 2, 59), MAX);
        check.due("the last to the first", x.copy(0, 59, 3, 0, 1), 1);
        check.due("the first behind it", x.get(3, 2, 0), MAX);
        check.due("the first of sheet 0", x.get(0, 2, 0), MIN);
    }

    private static void copyNothing() {
        check.sentence(32, "not so many");
        LetteredRock x = new LetteredRock();
        fill(x, 0, 0, 7, 8);
        x.sheet(1, 0, 0);
        check.due("none, to a row of none", x.copy(0, 0, 1, 0, 0), 1);
        check.due("none, from a row of none", x.copy(1, 0, 0, 0, 0), 1);
        check.due("none, at both ends", x.copy(0, 2, 0, 2, 0), 1);
        check.due("one, to a row of none", x.copy(0, 0, 1, 0, 1), INDEX);
        check.due("one, from a row of none", x.copy(1, 0, 0, 0, 1), INDEX);
        check.due("none, from behind the end", x.copy(0, 3, 1, 0, 0), INDEX);
        check.due("none, to behind the end", x.copy(0, 0, 1, 1, 0), INDEX);
        rowDue(x, 0, 0, 7, 8);
    }

    private static void copyNumbers() {
        check.sentence(32, "BAD: the SHEETS");
        LetteredRock x = new LetteredRock();
        fill(x, 0, 0, 7);
        check.each("copy(?, 0, 0, 0, 1)", s -> x.copy(s, 0, 0, 0, 1), BAD, -1, 4, MIN, MAX);
        check.each("copy(0, 0, ?, 0, 1)", t -> x.copy(0, 0, t, 0, 1), BAD, -1, 4, MIN, MAX);
        check.due("BAD is no finding", x.count(6), 0);
    }

    private static void copyNull() {
        check.sentence(32, "NULL: s, t");
        LetteredRock x = new LetteredRock();
        fill(x, 0, 0, 7);
        check.due("s is lost", x.copy(1, 0, 0, 0, 1), NULL);
        check.due("t is lost", x.copy(0, 0, 1, 0, 1), NULL);
        check.due("both are lost", x.copy(1, 0, 2, 0, 1), NULL);
        check.due("a lost sheet to itself", x.copy(3, 0, 3, 0, 0), NULL);
        check.due("count(6)", x.count(6), 1);
    }

    private static void copyStore() {
        check.sentence(32, "4 STORE: unlike FORMS");
        for (int form = 0; form < 3; form++) {
            for (int other = 0; other < 3; other++) {
                LetteredRock x = new LetteredRock();
                fill(x, 0, form, 7);
                fill(x, 1, other, 8);
                boolean isAlike = form == other;
                check.due("form " + form + " to " + other, x.copy(0, 0, 1, 0, 1), isAlike ? 1 : STORE);
                check.due("count(6)", x.count(6), isAlike ? 0 : 4);
                check.due("the item", x.get(1, other, 0), isAlike ? 7 : 8);
                check.due("none of them", x.copy(0, 0, 1, 0, 0), isAlike ? 1 : STORE);
            }
        }
    }

    private static void copyBelow0() {
        check.sentence(32, "INDEX: below 0");
        LetteredRock x = new LetteredRock();
        fill(x, 0, 0, 7, 8, 9);
        fill(x, 1, 0, 1, 2, 3);
        check.each("copy(0, ?, 1, 0, 1)", i -> x.copy(0, i, 1, 0, 1), INDEX, -1, MIN);
        check.each("copy(0, 0, 1, ?, 1)", j -> x.copy(0, 0, 1, j, 1), INDEX, -1, MIN);
        check.each("copy(0, 0, 1, 0, ?)", n -> x.copy(0, 0, 1, 0, n), INDEX, -1, MIN);
        check.each("copy(0, 3, 1, 3, ?)", n -> x.copy(0, 3, 1, 3, n), INDEX, -1, -3, MIN);
        check.each("copy(0, ?, 1, 0, 0)", i -> x.copy(0, i, 1, 0, 0), INDEX, -1, MIN);
        check.each("copy(0, 0, 1, ?, 0)", j -> x.copy(0, 0, 1, j, 0), INDEX, -1, MIN);
        check.due("count(6)", x.count(6), 2);
        rowDue(x, 1, 0, 1, 2, 3);
    }

    private static void copyNotSoMany() {
        check.sentence(32, "INDEX: below 0, not so many.");
        LetteredRock x = new LetteredRock();
        fill(x, 0, 0, 7, 8, 9);
        fill(x, 1, 0, 1, 2);
        check.each("copy(0, 0, 1, 0, ?), t is shorter", n -> x.copy(0, 0, 1, 0, n), INDEX, 3, 4, 61, MAX);
        check.each("copy(1, 0, 0, 0, ?), s is shorter", n -> x.copy(1, 0, 0, 0, n), INDEX, 3, 4, 61, MAX);
        check.each("copy(0, ?, 1, 0, 2)", i -> x.copy(0, i, 1, 0, 2), INDEX, 2, 3, MAX, MAX - 1);
        check.each("copy(1, 0, 0, ?, 2)", j -> x.copy(1, 0, 0, j, 2), INDEX, 2, 3, MAX, MAX - 1);
        check.due("a sum that wraps", x.copy(0, MAX, 1, MAX, MAX), INDEX);
        check.due("and another", x.copy(0, 1, 1, 1, MAX), INDEX);
        rowDue(x, 0, 0, 7, 8, 9);
        rowDue(x, 1, 0, 1, 2);
        check.due("as many as t has", x.copy(0, 1, 1, 0, 2), 1);
        rowDue(x, 1, 0, 8, 9);
        check.due("as many as s has", x.copy(1, 0, 0, 1, 2), 1);
    }

    private static void copyTheFirstThatFits() {
        check.sentence(32, "BAD: the SHEETS; NULL: s, t; STORE; INDEX");
        LetteredRock x = new LetteredRock();
        fill(x, 0, 0, 7);
        fill(x, 1, 1, 8);
        check.due("no sheet t, s lost, no items", x.copy(3, -1, 4, -1, -1), BAD);
        check.due("t lost, unlike forms, no items", x.copy(1, -1, 3, -1, -1), NULL);
        check.due("unlike forms, no items", x.copy(0, -1, 1, -1, -1), STORE);
        check.due("no items", x.copy(0, -1, 0, -1, -1), INDEX);
    }
}
