import java.util.function.Consumer;

/** The boundary cases of promises 21 to 27, and of what 'Terms' says of SHEETS and FINDINGS. */
public final class SheetEdgesTest {
    private static final Edges edges = new Edges();
    private static final int LEAST = Edges.LEAST;
    private static final int MOST = Edges.MOST;
    private static final int NULL = 1, INDEX = 2, CAST = 3, STORE = 4, SIZE = 5;
    /** The least and the greatest item of each FORM. */
    private static final int[][] ENDS = {{-128, 127}, {-32768, 32767}, {LEAST, MOST}};

    public static void main(String[] args) {
        sheetNumbers();
        sheetSizes();
        sheetIsANewRow();
        loseNumbers();
        lose();
        layNumbers();
        layFindings();
        layLowestBits();
        layOneItem();
        getNumbers();
        getFindings();
        getEachItem();
        copyNumbers();
        copyOfLostSheets();
        copyOfUnlikeForms();
        copyIndex();
        copyRows();
        copyOntoItself();
        writeNumbers();
        writeRows();
        writeAsManyAsThereAre();
        writeNothing();
        countNumbers();
        countEach();
        countLatestFinding();
        edges.end("SheetEdgesTest", 21, 27);
    }

    /** SHEETS 0, 1, 2 of FORMS 0, 1, 2, of five items 1 to 5; SHEET 3 is LOST. */
    private static void rows(Subject x) {
        for (int s = 0; s < 3; s++) {
            x.sheet(s, s, 5);
            for (int i = 0; i < 5; i++) {
                x.lay(s, s, i, i + 1);
            }
        }
    }

    private static String items(Subject x, int s, int form, int n) {
        StringBuilder out = new StringBuilder();
        for (int i = 0; i < n; i++) {
            out.append(i == 0 ? "" : " ").append(x.get(s, form, i));
        }
        return out.toString();
    }

    private static void sheetNumbers() {
        edges.says(21, "BAD: SHEET, FORM, above 60; SIZE");
        for (int bad : Edges.outside(4)) {
            edges.refused(SheetEdgesTest::rows, "SHEET " + bad, x -> x.sheet(bad, 0, 1), -2);
            edges.refused(SheetEdgesTest::rows, "SHEET " + bad + ", below 0", x -> x.sheet(bad, 0, -1), -2);
        }
        for (int bad : Edges.outside(3)) {
            edges.refused(SheetEdgesTest::rows, "FORM " + bad, x -> x.sheet(0, bad, 1), -2);
            edges.refused(SheetEdgesTest::rows, "FORM " + bad + ", below 0", x -> x.sheet(3, bad, -1), -2);
        }
        for (int bad : new int[] {61, 62, 255, 256, 256 + 5, MOST - 1, MOST}) {
            edges.refused(SheetEdgesTest::rows, bad + " items", x -> x.sheet(0, 0, bad), -2);
            edges.refused(x -> { }, bad + " items of a LOST one", x -> x.sheet(3, 2, bad), -2);
        }
        for (int n : new int[] {-1, -2, -60, LEAST + 1, LEAST}) {
            edges.found(x -> { }, n + " items", x -> x.sheet(2, 1, n), SIZE);
        }
        edges.due("SIZE of a row", Edges.look(x -> {
            rows(x);
            x.sheet(1, 2, -1);
        }), Edges.look(SheetEdgesTest::rows));
    }

    private static void sheetSizes() {
        edges.says(21, "a SHEET is a new row of a FORM with n items: n");
        for (int s = 0; s < 4; s++) {
            for (int form = 0; form < 3; form++) {
                for (int n : new int[] {0, 1, 59, 60}) {
                    Subject x = new Subject();
                    edges.due("SHEET " + s + " FORM " + form, x.sheet(s, form, n), n);
                    edges.due("item behind the last", x.get(s, form, n), LEAST);
                    edges.due("FINDING", x.count(8), INDEX);
                    if (n > 0) {
                        edges.due("lay the last item", x.lay(s, form, n - 1, 7), 1);
                        edges.due("the last item", x.get(s, form, n - 1), 7);
                    }
                    edges.due("items", x.lose(s), n);
                }
            }
        }
        edges.due("no FINDING by a row of no items", Edges.made(x -> x.sheet(0, 0, 0)).count(8), 0);
    }

    private static void sheetIsANewRow() {
        edges.says(21, "a new row (its items 0 at first), of a SHEET that is one already");
        for (int form = 0; form < 3; form++) {
            Subject x = new Subject();
            rows(x);
            edges.due("shorter", x.sheet(1, form, 3), 3);
            edges.due("its items", items(x, 1, form, 3), "0 0 0");
            x.lay(1, form, 2, 9);
            edges.due("longer", x.sheet(1, form, 60), 60);
            for (int i = 0; i < 60; i++) {
                edges.due("item " + i, x.get(1, form, i), 0);
            }
            edges.due("the others", items(x, 0, 0, 5) + " " + items(x, 2, 2, 5), "1 2 3 4 5 1 2 3 4 5");
        }
        Subject lost = new Subject();
        rows(lost);
        lost.lose(2);
        lost.sheet(2, 2, 5);
        edges.due("lost and made anew", items(lost, 2, 2, 5), "0 0 0 0 0");
    }

    private static void loseNumbers() {
        edges.says(22, "BAD; NULL");
        for (int bad : Edges.outside(4)) {
            edges.refused(SheetEdgesTest::rows, "SHEET " + bad, x -> x.lose(bad), -2);
            edges.refused(x -> { }, "SHEET " + bad + ", all LOST", x -> x.lose(bad), -2);
        }
        edges.found(SheetEdgesTest::fullAndEmptyRows, "a LOST one", x -> x.lose(3), NULL);
        for (int s = 0; s < 4; s++) {
            int lost = s;
            Consumer<Subject> before = x -> {
                x.sheet(lost, 1, 4);
                x.lose(lost);
            };
            edges.found(before, "lost before", x -> x.lose(lost), NULL);
        }
    }

    private static void fullAndEmptyRows(Subject x) {
        x.sheet(0, 0, 60);
        x.sheet(1, 1, 0);
        x.sheet(2, 2, 1);
    }

    private static void lose() {
        edges.says(22, "it is LOST: how many items it had");
        for (int s = 0; s < 4; s++) {
            for (int n : new int[] {0, 1, 59, 60}) {
                Subject x = new Subject();
                x.sheet(s, n % 3, n);
                edges.due("SHEET " + s, x.lose(s), n);
                edges.due("no FINDING", x.count(8), 0);
                edges.due("get", x.get(s, n % 3, 0), LEAST);
                edges.due("FINDING", x.count(8), NULL);
                edges.due("again", x.lose(s), -11);
            }
        }
        Subject x = new Subject();
        rows(x);
        x.lose(1);
        edges.due("the others", items(x, 0, 0, 5) + " " + items(x, 2, 2, 5), "1 2 3 4 5 1 2 3 4 5");
    }

    private static void layNumbers() {
        edges.says(23, "BAD; NULL; CAST; INDEX");
        for (int bad : Edges.outside(4)) {
            edges.refused(SheetEdgesTest::rows, "SHEET " + bad, x -> x.lay(bad, 0, 0, 9), -2);
            edges.refused(SheetEdgesTest::rows, "SHEET " + bad + ", no item", x -> x.lay(bad, 0, 60, 9), -2);
        }
        for (int bad : Edges.outside(3)) {
            edges.refused(SheetEdgesTest::rows, "FORM " + bad, x -> x.lay(0, bad, 0, 9), -2);
            edges.refused(SheetEdgesTest::rows, "FORM " + bad + " of a LOST one", x -> x.lay(3, bad, 0, 9), -2);
            edges.refused(SheetEdgesTest::rows, "FORM " + bad + ", no item", x -> x.lay(0, bad, 5, 9), -2);
        }
    }

    private static void layFindings() {
        edges.says(23, "FINDINGS: NULL, then CAST, then INDEX");
        for (int form = 0; form < 3; form++) {
            int asked = form;
            edges.found(SheetEdgesTest::rows, "a LOST one", x -> x.lay(3, asked, 0, 9), NULL);
            edges.found(SheetEdgesTest::rows, "a LOST one, no item", x -> x.lay(3, asked, -1, 9), NULL);
            for (int s = 0; s < 3; s++) {
                int row = s;
                if (s != form) {
                    edges.found(SheetEdgesTest::rows, "FORM " + s + " as " + form, x -> x.lay(row, asked, 0, 9), CAST);
                    edges.found(SheetEdgesTest::rows, "FORM " + s + " as " + form + ", no item", x -> x.lay(row, asked, 5, 9), CAST);
                }
            }
            for (int i : Edges.outside(5)) {
                edges.found(SheetEdgesTest::rows, "item " + i, x -> x.lay(asked, asked, i, 9), INDEX);
            }
            edges.found(x -> x.sheet(2, asked, 0), "item 0 of none", x -> x.lay(2, asked, 0, 9), INDEX);
            edges.found(x -> x.sheet(2, asked, 60), "item 60 of 60", x -> x.lay(2, asked, 60, 9), INDEX);
        }
    }

    private static void layLowestBits() {
        edges.says(23, "becomes v (the lowest bits that it has): 1");
        int[] laid = {0, 1, -1, 127, 128, -128, -129, 255, 256, 257, 32767, 32768, -32768, -32769, 65535, 65536, 65537, MOST, LEAST, LEAST + 1};
        int[] bytes = {0, 1, -1, 127, -128, -128, 127, -1, 0, 1, -1, 0, 0, -1, -1, 0, 1, -1, 0, 1};
        int[] shorts = {0, 1, -1, 127, 128, -128, -129, 255, 256, 257, 32767, -32768, -32768, 32767, -1, 0, 1, -1, 0, 1};
        int[][] want = {bytes, shorts, laid};
        for (int form = 0; form < 3; form++) {
            Subject x = new Subject();
            x.sheet(3, form, 1);
            for (int i = 0; i < laid.length; i++) {
                edges.due("lay " + laid[i] + " FORM " + form, x.lay(3, form, 0, laid[i]), 1);
                edges.due("get " + laid[i] + " FORM " + form, x.get(3, form, 0), want[form][i]);
            }
            edges.due("no FINDING", x.count(8), 0);
        }
    }

    private static void layOneItem() {
        edges.says(23, "item i, and no other");
        for (int form = 0; form < 3; form++) {
            for (int i : new int[] {0, 1, 58, 59}) {
                Subject x = new Subject();
                for (int s = 0; s < 4; s++) {
                    x.sheet(s, form, 60);
                }
                x.lay(2, form, i, ENDS[form][1]);
                for (int j = 0; j < 60; j++) {
                    edges.due("item " + j, x.get(2, form, j), i == j ? ENDS[form][1] : 0);
                    edges.due("item " + j + " of another", x.get(1, form, j) | x.get(3, form, j), 0);
                }
            }
        }
    }

    private static void getNumbers() {
        edges.says(24, "BAD: the least int");
        for (int bad : Edges.outside(4)) {
            edges.refused(SheetEdgesTest::rows, "SHEET " + bad, x -> x.get(bad, 0, 0), LEAST);
            edges.refused(SheetEdgesTest::rows, "SHEET " + bad + ", no item", x -> x.get(bad, 0, 60), LEAST);
        }
        for (int bad : Edges.outside(3)) {
            edges.refused(SheetEdgesTest::rows, "FORM " + bad, x -> x.get(0, bad, 0), LEAST);
            edges.refused(SheetEdgesTest::rows, "FORM " + bad + " of a LOST one", x -> x.get(3, bad, 0), LEAST);
            edges.refused(SheetEdgesTest::rows, "FORM " + bad + ", no item", x -> x.get(0, bad, 5), LEAST);
        }
    }

    private static void getFindings() {
        edges.says(24, "so are NULL, CAST, INDEX (count() 8 tells)");
        for (int form = 0; form < 3; form++) {
            int asked = form;
            edges.found(SheetEdgesTest::rows, "a LOST one", x -> x.get(3, asked, 0), NULL, LEAST);
            edges.found(SheetEdgesTest::rows, "a LOST one, no item", x -> x.get(3, asked, 60), NULL, LEAST);
            for (int s = 0; s < 3; s++) {
                int row = s;
                if (s != form) {
                    edges.found(SheetEdgesTest::rows, "FORM " + s + " as " + form, x -> x.get(row, asked, 4), CAST, LEAST);
                    edges.found(SheetEdgesTest::rows, "FORM " + s + " as " + form + ", no item", x -> x.get(row, asked, -1), CAST, LEAST);
                }
            }
            for (int i : Edges.outside(5)) {
                edges.found(SheetEdgesTest::rows, "item " + i, x -> x.get(asked, asked, i), INDEX, LEAST);
            }
            edges.found(x -> x.sheet(2, asked, 0), "item 0 of none", x -> x.get(2, asked, 0), INDEX, LEAST);
        }
    }

    private static void getEachItem() {
        edges.says(24, "item i of it");
        for (int form = 0; form < 3; form++) {
            int asked = form;
            edges.asked(SheetEdgesTest::rows, "the first", x -> x.get(asked, asked, 0), 1);
            edges.asked(SheetEdgesTest::rows, "the last", x -> x.get(asked, asked, 4), 5);
            for (int end : ENDS[form]) {
                Subject x = new Subject();
                x.sheet(0, form, 60);
                x.lay(0, form, 59, end);
                edges.due("the last of 60", x.get(0, form, 59), end);
                // The least int is an item, too: then there is no FINDING.
                edges.due("FINDING", x.count(8), 0);
            }
        }
    }

    private static void copyNumbers() {
        edges.says(25, "BAD: the SHEETS");
        for (int bad : Edges.outside(4)) {
            edges.refused(SheetEdgesTest::rows, "from " + bad, x -> x.copy(bad, 0, 0, 0, 1), -2);
            edges.refused(SheetEdgesTest::rows, "to " + bad, x -> x.copy(0, 0, bad, 0, 1), -2);
            edges.refused(SheetEdgesTest::rows, "from " + bad + " to a LOST one", x -> x.copy(bad, 0, 3, 0, 1), -2);
            edges.refused(SheetEdgesTest::rows, "from a LOST one to " + bad, x -> x.copy(3, 0, bad, 0, 1), -2);
            edges.refused(SheetEdgesTest::rows, "from " + bad + ", below 0", x -> x.copy(bad, -1, bad, -1, -1), -2);
        }
    }

    private static void copyOfLostSheets() {
        edges.says(25, "NULL: s, t");
        edges.found(SheetEdgesTest::rows, "s", x -> x.copy(3, 0, 0, 0, 1), NULL);
        edges.found(SheetEdgesTest::rows, "t", x -> x.copy(0, 0, 3, 0, 1), NULL);
        edges.found(SheetEdgesTest::rows, "both", x -> x.copy(3, 0, 3, 0, 1), NULL);
        edges.found(SheetEdgesTest::rows, "no items from s", x -> x.copy(3, 0, 0, 0, 0), NULL);
        edges.found(SheetEdgesTest::rows, "no items to t", x -> x.copy(0, 0, 3, 0, 0), NULL);
        edges.found(SheetEdgesTest::rows, "and not so many", x -> x.copy(0, -1, 3, 60, 61), NULL);
    }

    private static void copyOfUnlikeForms() {
        edges.says(25, "STORE (unlike FORMS), ahead of INDEX");
        for (int s = 0; s < 3; s++) {
            for (int t = 0; t < 3; t++) {
                int from = s;
                int to = t;
                if (s == t) {
                    edges.due("one FORM", Edges.made(SheetEdgesTest::rows).copy(s, 0, t, 0, 5), 1);
                    edges.found(SheetEdgesTest::rows, "one FORM, no item", x -> x.copy(from, 0, to, 1, 5), INDEX);
                } else {
                    edges.found(SheetEdgesTest::rows, s + " to " + t, x -> x.copy(from, 0, to, 0, 1), STORE);
                    edges.found(SheetEdgesTest::rows, s + " to " + t + ", no items", x -> x.copy(from, 0, to, 0, 0), STORE);
                    edges.found(SheetEdgesTest::rows, s + " to " + t + ", below 0", x -> x.copy(from, -1, to, -1, -1), STORE);
                    edges.found(SheetEdgesTest::rows, s + " to " + t + ", not so many", x -> x.copy(from, 5, to, 5, 60), STORE);
                }
            }
        }
        Subject x = new Subject();
        rows(x);
        x.sheet(3, 1, 5);
        edges.due("two SHEETS of one FORM", x.copy(1, 0, 3, 0, 5), 1);
        edges.due("copied", items(x, 3, 1, 5), "1 2 3 4 5");
    }

    /** SHEET 1 has five items, SHEET 2 three, of one FORM. */
    private static void two(Subject x) {
        x.sheet(1, 2, 5);
        x.sheet(2, 2, 3);
        for (int i = 0; i < 5; i++) {
            x.lay(1, 2, i, i + 1);
            if (i < 3) {
                x.lay(2, 2, i, i + 7);
            }
        }
    }

    private static void copyIndex() {
        edges.says(25, "INDEX: below 0, not so many");
        int[][] none = {{-1, 0, 1}, {0, -1, 1}, {0, 0, -1}, {-1, -1, -1}, {-1, 0, 0}, {0, -1, 0}, {5, 0, 1}, {0, 3, 1}, {6, 0, 0}, {0, 4, 0},
            {3, 0, 3}, {4, 0, 2}, {0, 0, 4}, {0, 1, 3}, {0, 2, 2}, {LEAST, 0, 1}, {0, LEAST, 1}, {0, 0, LEAST}, {MOST, 0, 1}, {0, MOST, 1},
            {0, 0, MOST}, {MOST, 0, 0}, {0, MOST, 0}, {MOST, MOST, MOST}, {LEAST, LEAST, LEAST}, {LEAST, LEAST, MOST}, {MOST, MOST, LEAST},
            {1, 0, MOST}, {0, 1, MOST}, {MOST, 0, MOST}, {1, 1, LEAST}, {5, 3, 1}, {60, 0, 1}, {-1, 0, 2}, {0, -1, 2}, {2, 2, -1}};
        for (int[] a : none) {
            edges.found(SheetEdgesTest::two, a[0] + " " + a[1] + " " + a[2], x -> x.copy(1, a[0], 2, a[1], a[2]), INDEX);
        }
        edges.found(SheetEdgesTest::two, "not so many in s", x -> x.copy(2, 1, 1, 0, 3), INDEX);
        edges.found(SheetEdgesTest::two, "onto itself", x -> x.copy(1, 0, 1, 1, 5), INDEX);
        int[][] some = {{0, 0, 3}, {2, 0, 3}, {4, 2, 1}, {0, 0, 0}, {5, 3, 0}, {0, 3, 0}, {5, 0, 0}, {4, 0, 1}, {0, 2, 1}};
        for (int[] a : some) {
            Subject x = Edges.made(SheetEdgesTest::two);
            edges.due("from " + a[0] + " to " + a[1] + ", " + a[2], x.copy(1, a[0], 2, a[1], a[2]), 1);
            edges.due("FINDING", x.count(8), 0);
            StringBuilder want = new StringBuilder();
            for (int i = 0; i < 3; i++) {
                boolean isCopied = i >= a[1] && i < a[1] + a[2];
                want.append(i == 0 ? "" : " ").append(isCopied ? a[0] + i - a[1] + 1 : i + 7);
            }
            edges.due("SHEET t", items(x, 2, 2, 3), want.toString());
            edges.due("SHEET s", items(x, 1, 2, 5), "1 2 3 4 5");
        }
    }

    private static void copyRows() {
        edges.says(25, "n items of SHEET s come to SHEET t: 1");
        for (int form = 0; form < 3; form++) {
            Subject none = new Subject();
            none.sheet(0, form, 0);
            none.sheet(3, form, 0);
            edges.due("none of none", none.copy(0, 0, 3, 0, 0), 1);
            edges.due("one of none", none.copy(0, 0, 3, 0, 1), -12);
            Subject full = new Subject();
            full.sheet(0, form, 60);
            full.sheet(3, form, 60);
            for (int i = 0; i < 60; i++) {
                full.lay(0, form, i, i - 30);
            }
            full.lay(0, form, 59, ENDS[form][0]);
            edges.due("61 of 60", full.copy(0, 0, 3, 0, 61), -12);
            edges.due("60 of 60", full.copy(0, 0, 3, 0, 60), 1);
            for (int i = 0; i < 60; i++) {
                edges.due("item " + i, full.get(3, form, i), i == 59 ? ENDS[form][0] : i - 30);
            }
        }
    }

    private static void copyOntoItself() {
        edges.says(25, "perhaps s, as they were");
        for (int form = 0; form < 3; form++) {
            for (int i = 0; i <= 5; i++) {
                for (int j = 0; j <= 5; j++) {
                    for (int n = 0; n <= 5 - Math.max(i, j); n++) {
                        Subject x = Edges.made(SheetEdgesTest::rows);
                        edges.due("copy", x.copy(form, i, form, j, n), 1);
                        StringBuilder want = new StringBuilder();
                        for (int k = 0; k < 5; k++) {
                            want.append(k == 0 ? "" : " ").append(k >= j && k < j + n ? k - j + i + 1 : k + 1);
                        }
                        edges.due(n + " from " + i + " to " + j, items(x, form, form, 5), want.toString());
                    }
                }
            }
        }
    }

    private static void writeNumbers() {
        edges.says(26, "BAD: UNKNOWN, SHEET; NULL");
        Consumer<Subject> before = x -> {
            rows(x);
            Edges.texts("P", ",aQ").accept(x);
        };
        for (int bad : Edges.outside(6)) {
            edges.refused(before, "UNKNOWN " + bad, x -> x.write(bad, 0), -2);
            edges.refused(before, "UNKNOWN " + bad + " to a LOST one", x -> x.write(bad, 3), -2);
        }
        for (int bad : Edges.outside(4)) {
            edges.refused(before, "SHEET " + bad, x -> x.write(0, bad), -2);
            edges.refused(before, "SHEET " + bad + " and no UNKNOWN", x -> x.write(6, bad), -2);
        }
        for (int unknown = 0; unknown < 6; unknown++) {
            int asked = unknown;
            edges.found(before, "UNKNOWN " + unknown + " to a LOST one", x -> x.write(asked, 3), NULL);
            edges.due("UNKNOWN " + unknown, Edges.made(before).write(unknown, 0), unknown == 0 ? 3 : 1);
        }
        edges.found(Edges.texts("a", "b"), "no answer, to a LOST one", x -> x.write(0, 3), NULL);
    }

    private static void writeRows() {
        edges.says(26, "what an UNKNOWN is comes to a SHEET from item 0 on");
        for (int form = 0; form < 3; form++) {
            Subject x = Edges.made(SheetEdgesTest::rows);
            Edges.texts("P", ",aQ").accept(x);
            edges.due("three bytes", x.write(0, form), 3);
            edges.due("items", items(x, form, form, 5), "44 97 81 4 5");
            edges.due("one byte", x.write(5, form), 1);
            edges.due("items", items(x, form, form, 5), "85 97 81 4 5");
            edges.due("no FINDING", x.count(8), 0);
            edges.due("bytes of texts", x.count(4), 4);
            edges.due("value", Check.value(x, 0), ",aQ");
        }
        Subject y = Edges.made(SheetEdgesTest::rows);
        Edges.texts("P", ",aQ").accept(y);
        y.write(0, 1);
        edges.due("the others", items(y, 0, 0, 5) + " " + items(y, 2, 2, 5), "1 2 3 4 5 1 2 3 4 5");
    }

    private static void writeAsManyAsThereAre() {
        edges.says(26, "as many as there are items, and bytes: how many");
        String value = Edges.full('0', 29) + "a";
        for (int size : new int[] {0, 1, 29, 30, 31, 60}) {
            Subject x = Check.with("P", value);
            x.sheet(2, size % 3, size);
            int want = Math.min(size, 30);
            edges.due("to " + size + " items", x.write(0, 2), want);
            for (int i = 0; i < size; i++) {
                edges.due("item " + i + " of " + size, x.get(2, size % 3, i), i < 30 ? value.charAt(i) : 0);
            }
        }
        for (int size : new int[] {0, 1, 59, 60}) {
            Subject x = Check.with(",P,Q,R,S,TU", ",,QQ,,RR,,SS,,TT,,UU*");
            x.sheet(0, 0, size);
            edges.due("63 bytes to " + size + " items", x.write(0, 0), size);
            if (size > 0) {
                edges.due("the last item", x.get(0, 0, size - 1), x.value(0, size - 1));
            }
        }
    }

    private static void writeNothing() {
        edges.says(26, "as value() tells: nothing, where there is no answer");
        for (String texts : new String[] {"a b", "P 0P", "P a       aP"}) {
            for (int form = 0; form < 3; form++) {
                int asked = form;
                Consumer<Subject> before = x -> {
                    rows(x);
                    Edges.texts(texts.split(" ", -1)).accept(x);
                };
                edges.due("of " + texts, Edges.made(before).write(0, asked), 0);
                edges.due("items", items(Edges.made(before.andThen(x -> x.write(0, asked))), form, form, 5), "1 2 3 4 5");
            }
        }
    }

    private static void countNumbers() {
        edges.says(27, "0 to 8; BAD");
        for (int bad : Edges.outside(9)) {
            edges.refused(Edges.texts("P", "a"), "what " + bad, x -> x.count(bad), -2);
        }
        int[] want = {1, 0, 0, 0, 6, 0, 1, 2};
        for (int what = 0; what < 8; what++) {
            int asked = what;
            Consumer<Subject> before = Edges.texts("P", "a", "", "", "", "", "", "", "", "abbc");
            edges.asked(before, "what " + what, x -> x.count(asked), want[what]);
        }
    }

    private static void countEach() {
        edges.says(27, "bytes of all texts, WHY, STEPS, how many SWAPS THE TURN is SHOWN by");
        Subject all = new Subject();
        edges.due("no bytes", all.count(4), 0);
        for (int text = 0; text < 10; text++) {
            Check.type(all, text, Edges.full('*', text < 8 ? 30 : 24));
        }
        edges.due("all bytes", all.count(4), 288);
        all.type(0, 97);
        edges.due("all bytes, one refused", all.count(4), 288);
        for (int text = 0; text < 10; text++) {
            edges.due("byte of text " + text, Edges.made(typing(text)).count(4), 1);
        }
        String[] swaps = {"", "ab", "abbc", "abbccd", "abbccdde", "abbccddeef"};
        for (int many = 0; many < 6; many++) {
            edges.due("SWAPS of " + swaps[many], Check.with("", "", "", "", "", "", "", "", "", swaps[many]).count(7), many);
        }
        edges.due("SWAPS of twelve", Check.with("", "", "", "", "", "", "", "", "", "abbccddeef".repeat(2) + "aabb").count(7), 4);
        edges.due("SWAPS with a FAULT", Check.with("", "", "", "", "", "", "", "", "", "abb").count(7), 0);
        String[] why = {"a a", "a b", "P 0P", ".ab .ba"};
        for (int i = 0; i < 4; i++) {
            edges.due("WHY of " + why[i], Check.with(why[i].split(" ")).count(5), i);
        }
    }

    private static Consumer<Subject> typing(int text) {
        return x -> x.type(text, 0);
    }

    private static int find(Subject x, int finding) {
        switch (finding) {
            case NULL:
                return x.lose(3);
            case INDEX:
                return x.lay(0, 0, 5, 1);
            case CAST:
                return x.lay(0, 1, 0, 1);
            case STORE:
                return x.copy(0, 0, 1, 0, 1);
            default:
                return x.sheet(0, 0, -1);
        }
    }

    private static void countLatestFinding() {
        edges.says(27, "8 the number of the latest FINDING (0 before any)");
        edges.due("before any", new Subject().count(8), 0);
        for (int one = 1; one <= 5; one++) {
            for (int other = 1; other <= 5; other++) {
                Subject x = Edges.made(SheetEdgesTest::rows);
                edges.due("before", x.count(8), 0);
                edges.due("FINDING " + one, find(x, one), -10 - one);
                edges.due("the latest", x.count(8), one);
                edges.due("FINDING " + other, find(x, other), -10 - other);
                edges.due("the latest", x.count(8), other);
                x.type(10, 0);
                x.undo(0);
                x.lay(0, 0, 0, 1);
                x.write(0, 0);
                x.lose(0);
                edges.due("still the latest", x.count(8), other);
            }
        }
    }
}
