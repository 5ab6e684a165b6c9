/** Promises 21 to 27: sheet, lose, lay, get, copy, write, count. */
public final class SheetsTest {
    private static final Check check = new Check();
    private static final int LEAST = Integer.MIN_VALUE;

    public static void main(String[] args) {
        sheet();
        lose();
        layAndGet();
        orderOfRefusals();
        copy();
        write();
        count();
        check.end("SheetsTest");
    }

    private static void sheet() {
        Subject x = new Subject();
        for (int s = 0; s < 4; s++) {
            check.due("sheet", x.sheet(s, s % 3, 60 - s), 60 - s);
            check.due("item at first", x.get(s, s % 3, 59 - s), 0);
            check.due("no item", x.get(s, s % 3, 60 - s), LEAST);
        }
        x.lay(0, 0, 1, 7);
        check.due("sheet anew", x.sheet(0, 0, 2), 2);
        check.due("item is 0 again", x.get(0, 0, 1), 0);
        x.lay(0, 0, 1, 7);
        for (int bad : new int[] {-1, 4, LEAST, Integer.MAX_VALUE}) {
            check.due("sheet " + bad, x.sheet(bad, 0, 1), -2);
            check.due("sheet " + bad + " and SIZE", x.sheet(bad, 0, -1), -2);
        }
        for (int bad : new int[] {-1, 3, LEAST, Integer.MAX_VALUE}) {
            check.due("form " + bad, x.sheet(0, bad, 1), -2);
            check.due("form " + bad + " and SIZE", x.sheet(0, bad, -1), -2);
        }
        check.due("sheet of 61", x.sheet(0, 0, 61), -2);
        check.due("sheet of most", x.sheet(0, 0, Integer.MAX_VALUE), -2);
        check.due("finding before", x.count(8), 2);
        check.due("sheet of -1", x.sheet(0, 0, -1), -15);
        check.due("sheet of least", x.sheet(0, 0, LEAST), -15);
        check.due("finding", x.count(8), 5);
        check.due("the row is as it was", x.get(0, 0, 1), 7);
        check.due("sheet of 0", x.sheet(0, 2, 0), 0);
        check.due("sheet of 0 is there", x.lose(0), 0);
    }

    private static void lose() {
        Subject x = new Subject();
        check.due("lose a LOST one", x.lose(2), -11);
        check.due("finding", x.count(8), 1);
        x.sheet(2, 1, 9);
        check.due("lose", x.lose(2), 9);
        check.due("lose again", x.lose(2), -11);
        check.due("get of a LOST one", x.get(2, 1, 0), LEAST);
        check.due("lose -1", x.lose(-1), -2);
        check.due("lose 4", x.lose(4), -2);
    }

    private static void layAndGet() {
        Subject x = new Subject();
        for (int form = 0; form < 3; form++) {
            x.sheet(form, form, 3);
        }
        int[] laid = {0, 1, -1, 127, 128, 255, 256, 32767, 32768, 65535, 65536, -32769, LEAST, Integer.MAX_VALUE};
        for (int v : laid) {
            check.due("lay byte " + v, x.lay(0, 0, 2, v), 1);
            check.due("lay short " + v, x.lay(1, 1, 2, v), 1);
            check.due("lay int " + v, x.lay(2, 2, 2, v), 1);
            check.due("get byte " + v, x.get(0, 0, 2), (byte) v);
            check.due("get short " + v, x.get(1, 1, 2), (short) v);
            check.due("get int " + v, x.get(2, 2, 2), v);
        }
        check.due("other items", x.get(0, 0, 1) + x.get(1, 1, 0) + x.get(2, 2, 1), 0);
        check.due("no finding", x.count(8), 0);
    }

    private static void orderOfRefusals() {
        Subject x = new Subject();
        x.sheet(0, 1, 2);
        x.lay(0, 1, 1, 5);
        Object[][] rows = {{-1, 1, 0, -2}, {4, 1, 0, -2}, {0, -1, 0, -2}, {0, 3, 0, -2}, {1, 3, 9, -2}, {1, 1, 9, -11}, {1, 1, 0, -11},
            {0, 0, 0, -13}, {0, 2, 9, -13}, {0, 1, 2, -12}, {0, 1, -1, -12}, {0, 1, LEAST, -12}, {0, 1, Integer.MAX_VALUE, -12}};
        for (Object[] row : rows) {
            int s = (Integer) row[0];
            int form = (Integer) row[1];
            int i = (Integer) row[2];
            int want = (Integer) row[3];
            x.sheet(0, 0, -1);
            check.due("lay " + s + " " + form + " " + i, x.lay(s, form, i, 9), want);
            check.due("its finding", x.count(8), want == -2 ? 5 : -10 - want);
            x.sheet(0, 0, -1);
            check.due("get " + s + " " + form + " " + i, x.get(s, form, i), LEAST);
            check.due("its finding", x.count(8), want == -2 ? 5 : -10 - want);
            check.due("the item", x.get(0, 1, 1), 5);
        }
    }

    private static String items(Subject x, int s, int form, int n) {
        StringBuilder out = new StringBuilder();
        for (int i = 0; i < n; i++) {
            out.append(x.get(s, form, i));
        }
        return out.toString();
    }

    private static void copy() {
        Subject x = new Subject();
        x.sheet(0, 2, 5);
        x.sheet(1, 2, 3);
        x.sheet(2, 1, 5);
        for (int i = 0; i < 5; i++) {
            x.lay(0, 2, i, i + 1);
        }
        check.due("copy", x.copy(0, 1, 1, 0, 3), 1);
        check.due("copied", items(x, 1, 2, 3), "234");
        check.due("copy onto itself, up", x.copy(0, 0, 0, 1, 4), 1);
        check.due("copied up", items(x, 0, 2, 5), "11234");
        check.due("copy onto itself, down", x.copy(0, 1, 0, 0, 4), 1);
        check.due("copied down", items(x, 0, 2, 5), "12344");
        check.due("copy none at the ends", x.copy(0, 5, 1, 3, 0), 1);
        check.due("copy none behind s", x.copy(0, 6, 1, 3, 0), -12);
        check.due("copy none behind t", x.copy(0, 5, 1, 4, 0), -12);
        int[][] index = {{0, -1, 1, 0, 1}, {0, 0, 1, -1, 1}, {0, 0, 1, 0, -1}, {0, 0, 1, 0, 4}, {0, 3, 1, 0, 3}, {0, 0, 1, 1, 3},
            {0, Integer.MAX_VALUE, 1, 0, 1}, {0, 1, 1, 0, Integer.MAX_VALUE}, {0, 0, 1, Integer.MAX_VALUE, 3}, {0, LEAST, 1, 0, 1},
            {0, 0, 1, 0, LEAST}, {0, Integer.MAX_VALUE, 1, Integer.MAX_VALUE, Integer.MAX_VALUE}, {0, 60, 0, 0, 1}};
        for (int[] a : index) {
            check.due("copy INDEX", x.copy(a[0], a[1], a[2], a[3], a[4]), -12);
            check.due("finding", x.count(8), 2);
        }
        check.due("as it was", items(x, 0, 2, 5) + items(x, 1, 2, 3), "12344234");
        check.due("copy STORE", x.copy(0, 0, 2, 0, 1), -14);
        check.due("finding", x.count(8), 4);
        check.due("copy STORE ahead of INDEX", x.copy(0, -1, 2, 9, 99), -14);
        check.due("copy NULL s", x.copy(3, 0, 0, 0, 1), -11);
        check.due("finding", x.count(8), 1);
        check.due("copy NULL t", x.copy(2, -1, 3, 0, 99), -11);
        check.due("copy BAD s", x.copy(-1, 0, 3, 0, 1), -2);
        check.due("copy BAD s 4", x.copy(4, 0, 3, 0, 1), -2);
        check.due("copy BAD t", x.copy(3, 0, -1, 0, 1), -2);
        check.due("copy BAD t 4", x.copy(3, 0, 4, 0, 1), -2);
    }

    private static void write() {
        for (int form = 0; form < 3; form++) {
            Subject x = Check.with("P", ",a.b!cdQ");
            x.sheet(0, form, 12);
            x.lay(0, form, 8, 99);
            check.due("write", x.write(0, 0), 8);
            StringBuilder out = new StringBuilder();
            for (int i = 0; i < 9; i++) {
                out.append((char) x.get(0, form, i));
            }
            check.due("written", out.toString(), ",a.b!cdQc");
            x.sheet(1, form, 3);
            check.due("write as many as items", x.write(0, 1), 3);
            check.due("the third", x.get(1, form, 2), '.');
            check.due("write an UNKNOWN itself", x.write(5, 1), 1);
            check.due("the first", x.get(1, form, 0), 'U');
            check.due("the second stays", x.get(1, form, 1), 'a');
            x.sheet(2, form, 0);
            check.due("write to no items", x.write(0, 2), 0);
            Check.type(x, 8, "aP");
            check.due("write with no answer", x.write(0, 0), 0);
            check.due("the first stays", x.get(0, form, 0), ',');
        }
        Subject x = Check.with(",P,Q,R,S,TU", ",,QQ,,RR,,SS,,TT,,UU*");
        x.sheet(3, 0, 60);
        check.due("write 60", x.write(0, 3), 60);
        check.due("the last", x.get(3, 0, 59), '*');
        check.due("write to a LOST one", x.write(0, 0), -11);
        check.due("finding", x.count(8), 1);
        check.due("write of -1", x.write(-1, 0), -2);
        check.due("write of 6", x.write(6, 0), -2);
        check.due("write to -1", x.write(0, -1), -2);
        check.due("write to 4", x.write(0, 4), -2);
    }

    private static void count() {
        Subject x = Check.with("P", "a", "P", "", "g", "a", "", "", "a", "abbc");
        long[] want = {1, 0, 0, 0, 10, 0, 1, 2, 0};
        for (int what = 0; what < 9; what++) {
            check.due("count " + what, x.count(what), want[what]);
        }
        Check.type(x, 3, "b");
        Check.retype(x, 4, "a");
        Check.type(x, 6, "a");
        Check.type(x, 7, "a");
        x.lose(0);
        long[] then = {1, 1, 1, 1, 13, 1, 2, 2, 1};
        for (int what = 0; what < 9; what++) {
            check.due("count " + what + " then", x.count(what), then[what]);
        }
        check.due("STEPS, asked for first", Check.with("P", "a", "0a", "0P").count(6), 3);
        for (int bad : new int[] {-1, 9, LEAST, Integer.MAX_VALUE}) {
            check.due("count " + bad, x.count(bad), -2);
        }
    }
}
