import java.util.function.BiConsumer;

/**
 * Every call with every mix of numbers from around its bounds, in several states, answered by the class and by the
 * model alike: none throws, and none does what only a number beside it should.
 */
public final class SweepTest {
    private static final Check check = new Check();
    private static final int LEAST = Integer.MIN_VALUE;
    private static final int MOST = Integer.MAX_VALUE;
    private static final int[] ALL = {LEAST, LEAST + 1, -65536, -61, -60, -3, -2, -1, 0, 1, 2, 3, 4, 5, 6, 7, 8, 9, 10, 11, 22, 23, 24, 25,
        29, 30, 31, 58, 59, 60, 61, 96, 97, 102, 103, 127, 128, 254, 255, 256, 257, 353, 32767, 32768, 65535, 65536, MOST - 1, MOST};
    private static final int[] FEW = {LEAST, -2, -1, 0, 1, 2, 3, 4, 59, 60, 61, MOST};
    private static final String[] STATES = {"", "P ,a.bQ Q !abR R b   aRbS abbcde",
        "a b P 0P g a ,PQ ,QP aPbQ abc", ",P,Q,R,S,TU ,,QQ,,RR,,SS,,TT,,UU* 000,P,P,P,P,P,P,P,P,Q,Q,ST 000,P,P,P,P,P,P,P,P,Q,Q,ST",
        "000000000000000000000000000000 ,,,,,,,,,,,,,,aaaaaaaaaaaaaaa       aPaPaPaPaPaPaPaPaPaPaPaP abababababababababababab"};

    private final String texts;
    private final boolean hasSheets;
    private Subject x;
    private Model m;
    private int asked = 0;

    private SweepTest(String texts, boolean hasSheets) {
        this.texts = texts;
        this.hasSheets = hasSheets;
    }

    public static void main(String[] args) {
        for (String texts : STATES) {
            for (int sheets = 0; sheets < 2; sheets++) {
                SweepTest one = new SweepTest(texts, sheets == 1);
                one.oneNumber();
                one.twoNumbers();
                one.threeNumbers();
                one.moreNumbers();
            }
        }
        check.end("SweepTest");
    }

    /** Calls that may change the object are made on a new one now and then, so that its state stays near the one told. */
    private void each(String call, BiConsumer<Subject, Model> act) {
        if (asked % 40 == 0) {
            x = new Subject();
            m = new Model();
            fill();
        }
        asked++;
        act.accept(x, m);
        check.due(call + ": FINDING", x.count(8), m.count(8));
        check.due(call + ": bytes", x.count(4), m.count(4));
    }

    private void fill() {
        String[] all = texts.split(" ", -1);
        for (int text = 0; text < all.length; text++) {
            for (int i = 0; i < all[text].length(); i++) {
                x.type(text, all[text].charAt(i));
                m.type(text, all[text].charAt(i));
            }
        }
        for (int s = 0; hasSheets && s < 3; s++) {
            int size = s == 0 ? 60 : s == 1 ? 3 : 0;
            x.sheet(s, s, size);
            m.sheet(s, s, size);
        }
    }

    private void oneNumber() {
        for (int a : ALL) {
            String call = " " + a + " in '" + texts + "'";
            each("wipe" + call, (x, m) -> check.due("wipe" + call, x.wipe(a), m.wipe(a)));
            each("undo" + call, (x, m) -> check.due("undo" + call, x.undo(a), m.undo(a)));
            each("fault" + call, (x, m) -> check.due("fault" + call, x.fault(a), m.fault(a)));
            each("rounds" + call, (x, m) -> check.due("rounds" + call, x.rounds(a), m.rounds(a)));
            each("shows" + call, (x, m) -> check.due("shows" + call, x.shows(a), m.shows(a)));
            each("alike" + call, (x, m) -> check.due("alike" + call, x.alike(a), m.alike(a)));
            each("solved" + call, (x, m) -> check.due("solved" + call, x.solved(a), m.solved(a)));
            each("fresh" + call, (x, m) -> check.due("fresh" + call, x.fresh(a), m.fresh(a)));
            each("needs" + call, (x, m) -> check.due("needs" + call, x.needs(a), m.needs(a)));
            each("lose" + call, (x, m) -> check.due("lose" + call, x.lose(a), m.lose(a)));
            each("count" + call, (x, m) -> check.due("count" + call, x.count(a), m.count(a)));
            each("spare" + call, (x, m) -> check.due("spare" + call, x.spare(), m.spare()));
        }
    }

    private void twoNumbers() {
        for (int a : ALL) {
            for (int b : ALL) {
                String call = " " + a + " " + b + " in '" + texts + "'";
                each("type" + call, (x, m) -> check.due("type" + call, x.type(a, b), m.type(a, b)));
                each("read" + call, (x, m) -> check.due("read" + call, x.read(a, b), m.read(a, b)));
                each("turn" + call, (x, m) -> check.due("turn" + call, x.turn(a, b), m.turn(a, b)));
                each("power" + call, (x, m) -> check.due("power" + call, x.power(a, b), m.power(a, b)));
                each("term" + call, (x, m) -> check.due("term" + call, x.term(a, b), m.term(a, b)));
                each("shown" + call, (x, m) -> check.due("shown" + call, x.shown(a, b), m.shown(a, b)));
                each("turned" + call, (x, m) -> check.due("turned" + call, x.turned(a, b), m.turned(a, b)));
                each("value" + call, (x, m) -> check.due("value" + call, x.value(a, b), m.value(a, b)));
                each("way" + call, (x, m) -> check.due("way" + call, x.way(a, b), m.way(a, b)));
                each("write" + call, (x, m) -> check.due("write" + call, x.write(a, b), m.write(a, b)));
            }
        }
    }

    private void threeNumbers() {
        for (int a : FEW) {
            for (int b : FEW) {
                for (int c : ALL) {
                    String call = " " + a + " " + b + " " + c + " in '" + texts + "'";
                    each("sheet" + call, (x, m) -> check.due("sheet" + call, x.sheet(a, b, c), m.sheet(a, b, c)));
                    each("get" + call, (x, m) -> check.due("get" + call, x.get(a, b, c), m.get(a, b, c)));
                }
            }
        }
    }

    private void moreNumbers() {
        for (int a : FEW) {
            for (int b : FEW) {
                for (int c : FEW) {
                    for (int d : FEW) {
                        String call = " " + a + " " + b + " " + c + " " + d + " in '" + texts + "'";
                        each("lay" + call, (x, m) -> check.due("lay" + call, x.lay(a, b, c, d), m.lay(a, b, c, d)));
                        for (int e : new int[] {-1, 0, 1, 60, MOST}) {
                            each("copy" + call, (x, m) -> check.due("copy" + call + " " + e, x.copy(a, b, c, d, e), m.copy(a, b, c, d, e)));
                        }
                    }
                }
            }
        }
    }
}
