/** Promises 28 to 32: sheets, their items, and the findings. */
public final class SheetsTest {
    private static final int BAD = LetteredRock.BAD;
    private static final int NULL = -11, INDEX = -12, CAST = -13, STORE = -14, SIZE = -15;
    private static final int MIN = Integer.MIN_VALUE, MAX = Integer.MAX_VALUE;
    private static final int[] NO_SHEETS = {-1, 4, MIN, MAX};
    private static final int[] NO_FORMS = {-1, 3, MIN, MAX};
    private static final Check check = new Check();

    public static void main(String[] args) {
        sheetsAreNewRows();
        sheetRefusals();
        loseAnswersSize();
        putKeepsLowestBits();
        putRefusals();
        getRefusals();
        copyBetweenSheets();
        copyWithinASheet();
        copyOfNothing();
        copyRefusals();
        check.end();
    }

    private static LetteredRock withRow(int s, int form, int... row) {
        LetteredRock x = new LetteredRock();
        fill(x, s, form, row);
        return x;
    }

    private static void fill(LetteredRock x, int s, int form, int... row) {
        x.sheet(s, form, row.length);
        for (int i = 0; i < row.length; i++) {
            x.put(s, form, i, row[i]);
        }
    }

    private static void rowDue(LetteredRock x, int s, int form, int... want) {
        for (int i = 0; i < want.length; i++) {
            check.due("get(" + s + ", " + form + ", " + i + ")", x.get(s, form, i), want[i]);
        }
        check.due("no item behind", x.put(s, form, want.length, 0), INDEX);
    }

    private static void sheetsAreNewRows() {
        for (int form = 0; form <= 2; form++) {
            LetteredRock x = new LetteredRock();
            for (int s = 0; s < 4; s++) {
                check.due("sheet of 60", x.sheet(s, form, 60), 60);
                rowDue(x, s, form, new int[60]);
                x.put(s, form, 0, 5);
                x.put(s, form, 59, 5);
                check.due("sheet of 0", x.sheet(s, form, 0), 0);
                rowDue(x, s, form);
            }
        }
        LetteredRock x = withRow(0, 0, 1, 2, 3);
        check.due("a new row", x.sheet(0, 0, 2), 2);
        rowDue(x, 0, 0, 0, 0);
        check.due("a longer row", x.sheet(0, 2, 4), 4);
        rowDue(x, 0, 2, 0, 0, 0, 0);
    }

    private static void sheetRefusals() {
        LetteredRock x = withRow(1, 1, 7, 8);
        for (int s : NO_SHEETS) {
            check.due("sheet(" + s + ")", x.sheet(s, 0, 1), BAD);
            check.due("BAD SHEET comes ahead of SIZE", x.sheet(s, 0, -1), BAD);
        }
        for (int form : NO_FORMS) {
            check.due("form " + form, x.sheet(1, form, 1), BAD);
            check.due("BAD FORM comes ahead of SIZE", x.sheet(1, form, -1), BAD);
        }
        check.due("61 items", x.sheet(1, 0, 61), BAD);
        check.due("the most items", x.sheet(1, 0, MAX), BAD);
        check.due("no finding", x.count(6), 0);
        check.due("below 0", x.sheet(1, 0, -1), SIZE);
        check.due("SIZE is told", x.count(6), 5);
        check.due("the least", x.sheet(1, 0, MIN), SIZE);
        rowDue(x, 1, 1, 7, 8);
        check.due("SIZE of a lost sheet", x.sheet(2, 0, -1), SIZE);
        check.due("it is lost still", x.lose(2), NULL);
    }

    private static void loseAnswersSize() {
        LetteredRock x = withRow(3, 0, 1, 2, 3);
        x.sheet(2, 1, 0);
        check.due("lose(3)", x.lose(3), 3);
        check.due("lose(2)", x.lose(2), 0);
        for (int s : NO_SHEETS) {
            check.due("lose(" + s + ")", x.lose(s), BAD);
        }
        check.due("no finding", x.count(6), 0);
        check.due("lose(3) again", x.lose(3), NULL);
        check.due("NULL is told", x.count(6), 1);
        x.sheet(3, 0, 3);
        rowDue(x, 3, 0, 0, 0, 0);
    }

    private static void putKeepsLowestBits() {
        int[] values = {0, 1, -1, 127, 128, 255, 256, -129, 32767, 32768, 65535, 65536, MIN, MAX, 0x12345678};
        int[] bytes = {0, 1, -1, 127, -128, -1, 0, 127, -1, 0, -1, 0, 0, -1, 0x78};
        int[] shorts = {0, 1, -1, 127, 128, 255, 256, -129, 32767, -32768, -1, 0, 0, -1, 0x5678};
        int[][] want = {bytes, shorts, values};
        for (int form = 0; form <= 2; form++) {
            LetteredRock x = withRow(form, form, values);
            rowDue(x, form, form, want[form]);
            check.due("put", x.put(form, form, 0, MAX), 1);
        }
    }

    private static void putRefusals() {
        LetteredRock x = withRow(0, 1, 7, 8);
        for (int s : NO_SHEETS) {
            check.due("put to sheet " + s, x.put(s, 1, 0, 9), BAD);
        }
        for (int form : NO_FORMS) {
            check.due("put of form " + form, x.put(0, form, 0, 9), BAD);
            check.due("BAD comes ahead of NULL", x.put(1, form, 0, 9), BAD);
        }
        check.due("no finding", x.count(6), 0);
        for (int i : new int[] {-1, 2, 60, MIN, MAX}) {
            check.due("put to item " + i, x.put(0, 1, i, 9), INDEX);
            check.due("INDEX is told", x.count(6), 2);
            check.due("CAST comes ahead of INDEX", x.put(0, 2, i, 9), CAST);
            check.due("CAST is told", x.count(6), 3);
            check.due("NULL comes ahead of INDEX", x.put(1, 1, i, 9), NULL);
            check.due("NULL is told", x.count(6), 1);
        }
        check.due("CAST of a lesser form", x.put(0, 0, 0, 9), CAST);
        check.due("NULL comes ahead of CAST", x.put(1, 2, 0, 9), NULL);
        rowDue(x, 0, 1, 7, 8);
    }

    private static void getDue(LetteredRock x, int s, int form, int i, int finding) {
        String call = "get(" + s + ", " + form + ", " + i + ")";
        check.due(call, x.get(s, form, i), MIN);
        check.due("count(6) behind " + call, x.count(6), finding);
    }

    private static void getRefusals() {
        LetteredRock x = withRow(0, 1, 7, 8);
        for (int s : NO_SHEETS) {
            getDue(x, s, 1, 0, 0);
        }
        for (int form : NO_FORMS) {
            getDue(x, 0, form, 0, 0);
            getDue(x, 1, form, 0, 0);
        }
        getDue(x, 1, 0, 0, 1);
        for (int i : new int[] {-1, 2, 60, MIN, MAX}) {
            getDue(x, 0, 1, i, 2);
            getDue(x, 0, 2, i, 3);
            getDue(x, 1, 1, i, 1);
        }
        getDue(x, 0, 0, 0, 3);
        check.due("get finds nothing wrong", x.get(0, 1, 0), 7);
        check.due("the latest finding stays", x.count(6), 3);
    }

    private static void copyBetweenSheets() {
        for (int form = 0; form <= 2; form++) {
            LetteredRock x = withRow(0, form, 1, 2, 3, 4);
            fill(x, 3, form, 9, 9, 9);
            check.due("copy", x.copy(0, 1, 3, 0, 2), 1);
            rowDue(x, 3, form, 2, 3, 9);
            rowDue(x, 0, form, 1, 2, 3, 4);
            check.due("copy to the end", x.copy(0, 3, 3, 2, 1), 1);
            rowDue(x, 3, form, 2, 3, 4);
            check.due("copy a whole row", x.copy(3, 0, 0, 1, 3), 1);
            rowDue(x, 0, form, 1, 2, 3, 4);
        }
    }

    private static void copyWithinASheet() {
        LetteredRock x = withRow(2, 1, 1, 2, 3, 4, 5);
        check.due("copy on", x.copy(2, 0, 2, 1, 4), 1);
        rowDue(x, 2, 1, 1, 1, 2, 3, 4);
        check.due("copy back", x.copy(2, 1, 2, 0, 4), 1);
        rowDue(x, 2, 1, 1, 2, 3, 4, 4);
        check.due("copy in place", x.copy(2, 0, 2, 0, 5), 1);
        rowDue(x, 2, 1, 1, 2, 3, 4, 4);
    }

    private static void copyOfNothing() {
        LetteredRock x = withRow(0, 0, 1, 2);
        fill(x, 1, 0);
        check.due("none", x.copy(0, 0, 1, 0, 0), 1);
        check.due("none, from the end", x.copy(0, 2, 1, 0, 0), 1);
        check.due("none, from behind the end", x.copy(0, 3, 1, 0, 0), INDEX);
        check.due("none, to behind the end", x.copy(0, 0, 1, 1, 0), INDEX);
        rowDue(x, 0, 0, 1, 2);
    }

    private static void copyRefusals() {
        LetteredRock x = withRow(0, 0, 1, 2, 3);
        fill(x, 1, 0, 4, 5);
        fill(x, 2, 1, 6, 7, 8);
        for (int s : NO_SHEETS) {
            check.due("copy from " + s, x.copy(s, 0, 0, 0, 1), BAD);
            check.due("copy to " + s, x.copy(0, 0, s, 0, 1), BAD);
            check.due("BAD comes ahead of NULL", x.copy(3, 0, s, 0, 1), BAD);
        }
        check.due("no finding", x.count(6), 0);
        int[][] outside = {{-1, 0, 1}, {0, -1, 1}, {0, 0, -1}, {0, 0, 3}, {2, 0, 2}, {3, 0, 1}, {0, 1, 2}, {0, 2, 1},
            {MIN, 0, 1}, {MAX, 0, 1}, {0, MIN, 1}, {0, MAX, 1}, {0, 0, MIN}, {0, 0, MAX}, {1, 0, MAX}, {0, 1, MAX},
            {MAX, 0, MAX}, {0, MAX, MAX}, {MIN, 0, MIN}, {MAX, MAX, 2}};
        for (int[] o : outside) {
            String row = o[0] + ", " + o[1] + ", " + o[2];
            check.due("outside: " + row, x.copy(0, o[0], 1, o[1], o[2]), INDEX);
            check.due("INDEX is told", x.count(6), 2);
            check.due("STORE comes ahead of INDEX: " + row, x.copy(0, o[0], 2, o[1], o[2]), STORE);
            check.due("STORE is told", x.count(6), 4);
            check.due("NULL comes ahead of INDEX: " + row, x.copy(0, o[0], 3, o[1], o[2]), NULL);
            check.due("NULL is told", x.count(6), 1);
        }
        check.due("NULL of s", x.copy(3, 0, 0, 0, 1), NULL);
        check.due("NULL of t ahead of STORE", x.copy(2, 0, 3, 0, 1), NULL);
        check.due("STORE of none", x.copy(2, 0, 0, 0, 0), STORE);
        rowDue(x, 0, 0, 1, 2, 3);
        rowDue(x, 1, 0, 4, 5);
        rowDue(x, 2, 1, 6, 7, 8);
    }
}
