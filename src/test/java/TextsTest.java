/** Promises 1 to 6: a new object, type, wipe, undo, fault, read. */
public final class TextsTest {
    private static final Check check = new Check();

    public static void main(String[] args) {
        newObject();
        type();
        wipeAndUndo();
        faultsOfTerms();
        faultsOfTwos();
        faultIsAsIfEmpty();
        read();
        check.end("TextsTest");
    }

    private static void newObject() {
        Subject x = new Subject();
        for (int text = 0; text < 10; text++) {
            check.due("new undo " + text, x.undo(text), -3);
            check.due("new wipe " + text, x.wipe(text), 0);
            check.due("new fault " + text, x.fault(text), -1);
        }
        for (int what = 0; what < 9; what++) {
            check.due("new count " + what, x.count(what), 0);
        }
        for (int s = 0; s < 4; s++) {
            check.due("new lose " + s, x.lose(s), -11);
        }
        check.due("two objects", new Subject().digest(), x.digest());
    }

    private static void type() {
        for (int text = 0; text < 10; text++) {
            Subject x = new Subject();
            int most = text < 8 ? 30 : 24;
            for (int i = 1; i <= most; i++) {
                check.due("type", x.type(text, i % 2 == 0 ? 0 : 255), i);
            }
            check.due("type too many", x.type(text, 97), -4);
            check.due("type too many, no byte", x.type(text, 256), -2);
            check.due("bytes", x.count(4), most);
            check.due("type elsewhere", x.type((text + 1) % 10, 97), 1);
        }
        Subject x = new Subject();
        check.due("type -1", x.type(-1, 97), -2);
        check.due("type 10", x.type(10, 97), -2);
        check.due("type least", x.type(Integer.MIN_VALUE, 97), -2);
        check.due("type greatest", x.type(Integer.MAX_VALUE, 97), -2);
        check.due("byte -1", x.type(0, -1), -2);
        check.due("byte 256", x.type(0, 256), -2);
        check.due("byte least", x.type(0, Integer.MIN_VALUE), -2);
        check.due("bytes after refusals", x.count(4), 0);
    }

    private static void wipeAndUndo() {
        Subject x = Check.with(",ab", "", "P");
        check.due("undo", x.undo(0), 2);
        check.due("fault after undo", x.fault(0), 2);
        check.due("type after undo", x.type(0, 'c'), 3);
        check.due("shown after undo", Check.shown(x, 0), ",ac");
        check.due("wipe", x.wipe(0), 3);
        check.due("wipe again", x.wipe(0), 0);
        check.due("undo of none", x.undo(0), -3);
        check.due("undo of one", x.undo(2), 0);
        check.due("shown after wipe", Check.shown(x, 0), "");
        check.due("wipe -1", x.wipe(-1), -2);
        check.due("wipe 10", x.wipe(10), -2);
        check.due("undo -1", x.undo(-1), -2);
        check.due("undo 10", x.undo(10), -2);
        Subject y = Check.with("", "", "", "", "", "", "", "", "aP", "ab");
        check.due("wipe FRESH", y.wipe(8), 2);
        check.due("fresh after wipe", y.fresh(0), 0);
        check.due("undo SWAPS", y.undo(9), 1);
        check.due("turn after undo", y.turn(0, 0), 0);
    }

    private static void fault(int text, String bytes, int want) {
        Subject x = new Subject();
        Check.type(x, text, bytes);
        check.due("fault of " + text + " '" + bytes + "'", x.fault(text), want);
    }

    private static void faultsOfTerms() {
        for (String well : new String[] {"", "a", "f", "P", "U", "*", "0a", "4*", ",ab", ".aP", "!abP", "!aab",
            "0000000000000000000000000000*a".substring(0, 29), ",,,abcd", ".a.b.c,,abc", "!ab.c!cd,0P*"}) {
            fault(0, well, -1);
            fault(7, well, -1);
        }
        for (String ill : new String[] {"g", "O", "V", "`", "5", "/", " ", "@", "A", ")", "+", "-", "\"", "\0", "\u00ff"}) {
            fault(3, ill, 0);
            fault(3, "," + ill, 1);
            fault(3, "." + ill, 1);
            fault(3, "!a" + ill, 2);
        }
        fault(0, ",", 1);
        fault(0, ",a", 2);
        fault(0, "0", 1);
        fault(0, ".", 1);
        fault(0, ".a", 2);
        fault(0, ".P", 1);
        fault(0, ".*", 1);
        fault(0, "!", 1);
        fault(0, "!a", 2);
        fault(0, "!ab", 3);
        fault(0, "!aPb", 2);
        fault(0, "!Pab", 1);
        fault(0, "aa", 1);
        fault(0, ",aba", 3);
        fault(0, ",abg", 3);
        fault(0, ".abg", 3);
        fault(0, "000000000000000000000000000000", 30);
        for (int text : new int[] {-1, 10, Integer.MIN_VALUE, Integer.MAX_VALUE}) {
            check.due("fault " + text, new Subject().fault(text), -2);
        }
    }

    private static void faultsOfTwos() {
        fault(8, "aP", -1);
        fault(8, "fUaPaP", -1);
        fault(8, "a", 1);
        fault(8, "aPb", 3);
        fault(8, "P", 0);
        fault(8, "aa", 1);
        fault(8, "aPPa", 2);
        fault(8, "aPb*", 3);
        fault(8, "aPaPaPaPaPaPaPaPaPaPaPaP", -1);
        fault(9, "ab", -1);
        fault(9, "aa", -1);
        fault(9, "a", 1);
        fault(9, "abc", 3);
        fault(9, "aP", 1);
        fault(9, "abg", 2);
        fault(9, "ab!", 2);
        fault(9, "abababababababababababab", -1);
    }

    private static void faultIsAsIfEmpty() {
        Subject x = Check.with("P", "aa", "b", "Q", "", "", "", "", "aPb", "abc");
        check.due("term", x.term(1, 0), 0);
        check.due("shown", x.shown(1, -1), 0);
        check.due("turned", x.turned(1, 0), -1);
        check.due("equation 0", x.count(0), 0);
        check.due("equation 1", x.count(1), 1);
        check.due("alike", x.alike(0), -3);
        check.due("values", x.solved(3), 1);
        check.due("fresh", x.fresh(0), 0);
        check.due("turn", x.turn(0, 0), 0);
        check.due("shows", x.shows(-1), 0);
        check.due("swaps", x.count(7), 0);
        check.due("bytes", x.count(4), 11);
        x.undo(1);
        x.undo(8);
        x.undo(9);
        check.due("equation 0, mended", x.count(0), 1);
        check.due("FRESH, mended", x.solved(0), 3);
        check.due("turn, mended", x.turn(0, 0), 1);
        x.wipe(8);
        check.due("value, mended", Check.value(x, 0), "a");
    }

    private static void read() {
        Subject x = new Subject();
        check.due("read text -1", x.read(-1, 0), -2);
        check.due("read text 10", x.read(10, 0), -2);
        check.due("read sheet -1", x.read(0, -1), -2);
        check.due("read sheet 4", x.read(0, 4), -2);
        check.due("read lost", x.read(0, 3), -11);
        check.due("finding", x.count(8), 1);
        for (int form = 0; form < 3; form++) {
            x.sheet(form, form, 4);
            x.lay(form, form, 0, ',');
            x.lay(form, form, 1, 'a');
            x.lay(form, form, 2, 'P' + form);
            x.lay(form, form, 3, form == 2 ? 256 : -1);
            check.due("read", x.read(form, form), 3);
            check.due("shown", Check.shown(x, form), ",a" + (char) ('P' + form));
        }
        check.due("read behind", x.read(0, 1), 3);
        check.due("fault behind", x.fault(0), 3);
        x.sheet(3, 2, 60);
        x.lay(3, 2, 0, 255);
        check.due("read as many as may", x.read(0, 3), 24);
        check.due("read none more", x.read(0, 3), 0);
        check.due("type none more", x.type(0, 97), -4);
        check.due("read FRESH", x.read(8, 3), 24);
        check.due("read SWAPS", x.read(9, 3), 24);
        check.due("fault of 255", x.fault(8), 0);
        x.sheet(3, 0, 0);
        check.due("read none", x.read(5, 3), 0);
        x.sheet(3, 1, 2);
        x.lay(3, 1, 0, 'a');
        x.lay(3, 1, 1, 'b');
        x.wipe(9);
        check.due("read SWAPS again", x.read(9, 3), 2);
        check.due("turn", x.turn(0, 0), 1);
    }
}
