import java.util.ArrayDeque;
import java.util.ArrayList;
import java.util.Arrays;
import java.util.Deque;
import java.util.HashSet;
import java.util.List;
import java.util.Set;
import java.util.TreeSet;

/**
 * The document over again in the plainest way: terms are trees that are built anew when they are turned,
 * nothing is kept between calls. Slow, but with no trick in common with the class that it is held against.
 */
final class Model {
    interface Term { }

    record Name(int n) implements Term { }

    record Unknown(int[] pending, int u) implements Term { }

    record Nothing() implements Term { }

    record Sign(int figure, Term of) implements Term { }

    record Pair(Term first, Term second) implements Term { }

    record Binder(int n, Term in) implements Term { }

    record Must(int n, Term in) { }

    record Two(Term left, Term right) { }

    private static final int LEAST = Integer.MIN_VALUE;

    final List<List<Integer>> texts = new ArrayList<>();
    final int[][] sheets = new int[4][];
    final int[] forms = new int[4];
    int latest = 0;

    Model() {
        for (int i = 0; i < 10; i++) {
            texts.add(new ArrayList<>());
        }
    }

    // ---- turns

    static int[] still() {
        return new int[] {0, 1, 2, 3, 4, 5};
    }

    static int[] swap(int x, int y) {
        int[] out = still();
        out[x] = y;
        out[y] = x;
        return out;
    }

    static int[] then(int[] first, int[] second) {
        int[] out = new int[6];
        for (int n = 0; n < 6; n++) {
            out[n] = second[first[n]];
        }
        return out;
    }

    static int[] back(int[] turn) {
        int[] out = new int[6];
        for (int n = 0; n < 6; n++) {
            out[turn[n]] = n;
        }
        return out;
    }

    static String showTurn(int[] turn) {
        for (int n = 0; n < 6; n++) {
            if (turn[n] != n) {
                return "!" + (char) ('a' + n) + (char) ('a' + turn[n]) + showTurn(then(turn, swap(n, turn[n])));
            }
        }
        return "";
    }

    int[] theTurn() {
        int[] out = still();
        List<Integer> text = well(9);
        for (int i = text.size() - 2; i >= 0; i -= 2) {
            out = then(out, swap(text.get(i) - 'a', text.get(i + 1) - 'a'));
        }
        return out;
    }

    // ---- reading

    private int at;

    private static boolean isName(int b) {
        return "abcdef".indexOf(b) >= 0;
    }

    private static boolean isUnknown(int b) {
        return "PQRSTU".indexOf(b) >= 0;
    }

    /** Null where it cannot go on; then 'at' is that place. */
    private Term parse(List<Integer> text) {
        if (at >= text.size()) {
            return null;
        }
        int b = text.get(at);
        if (isName(b)) {
            at++;
            return new Name(b - 'a');
        }
        if (isUnknown(b)) {
            at++;
            return new Unknown(still(), b - 'P');
        }
        if (b == '*') {
            at++;
            return new Nothing();
        }
        if ("01234".indexOf(b) >= 0) {
            at++;
            Term of = parse(text);
            return of == null ? null : new Sign(b, of);
        }
        if (b == ',') {
            at++;
            Term first = parse(text);
            Term second = first == null ? null : parse(text);
            return second == null ? null : new Pair(first, second);
        }
        if (b == '.' || b == '!') {
            at++;
            int[] names = new int[2];
            for (int i = 0; i < (b == '.' ? 1 : 2); i++) {
                if (at >= text.size() || !isName(text.get(at))) {
                    return null;
                }
                names[i] = text.get(at) - 'a';
                at++;
            }
            Term in = parse(text);
            if (in == null) {
                return null;
            }
            return b == '.' ? new Binder(names[0], in) : turned(swap(names[0], names[1]), in);
        }
        return null;
    }

    int faultOf(int text) {
        List<Integer> bytes = texts.get(text);
        if (bytes.isEmpty()) {
            return -1;
        }
        if (text < 8) {
            at = 0;
            Term term = parse(bytes);
            return term != null && at == bytes.size() ? -1 : at;
        }
        for (int i = 0; i < bytes.size(); i++) {
            boolean fits = i % 2 == 0 || text == 9 ? isName(bytes.get(i)) : isUnknown(bytes.get(i));
            if (!fits) {
                return i;
            }
        }
        return bytes.size() % 2 == 0 ? -1 : bytes.size();
    }

    List<Integer> well(int text) {
        return faultOf(text) == -1 ? texts.get(text) : List.of();
    }

    Term termOf(int text) {
        List<Integer> bytes = well(text);
        at = 0;
        return bytes.isEmpty() ? null : parse(bytes);
    }

    boolean isThere(int equation) {
        return termOf(2 * equation) != null && termOf(2 * equation + 1) != null;
    }

    static Term turned(int[] turn, Term t) {
        if (t instanceof Name x) {
            return new Name(turn[x.n]);
        }
        if (t instanceof Unknown x) {
            return new Unknown(then(x.pending, turn), x.u);
        }
        if (t instanceof Sign x) {
            return new Sign(x.figure, turned(turn, x.of));
        }
        if (t instanceof Pair x) {
            return new Pair(turned(turn, x.first), turned(turn, x.second));
        }
        if (t instanceof Binder x) {
            return new Binder(turn[x.n], turned(turn, x.in));
        }
        return t;
    }

    // ---- showing and measuring

    /** With VALUES put in; what comes behind 60 bytes is not told, so it need not be built. */
    static void show(Term t, Term[] values, StringBuilder out) {
        if (out.length() >= 60) {
            return;
        }
        if (t instanceof Name x) {
            out.append((char) ('a' + x.n));
        } else if (t instanceof Unknown x && values[x.u] != null) {
            show(turned(x.pending, values[x.u]), values, out);
        } else if (t instanceof Unknown x) {
            out.append(showTurn(x.pending)).append((char) ('P' + x.u));
        } else if (t instanceof Nothing) {
            out.append('*');
        } else if (t instanceof Sign x) {
            out.append((char) x.figure);
            show(x.of, values, out);
        } else if (t instanceof Pair x) {
            out.append(',');
            show(x.first, values, out);
            show(x.second, values, out);
        } else if (t instanceof Binder x) {
            out.append('.').append((char) ('a' + x.n));
            show(x.in, values, out);
        }
    }

    static String shownAs(Term t, Term[] values) {
        StringBuilder out = new StringBuilder();
        if (t != null) {
            show(t, values, out);
        }
        return out.length() > 60 ? out.substring(0, 60) : out.toString();
    }

    static int told(String shown, int i) {
        return i == -1 ? shown.length() : i < shown.length() ? shown.charAt(i) : -1;
    }

    static int sizeOf(Term t) {
        if (t instanceof Sign x) {
            return 1 + sizeOf(x.of);
        }
        if (t instanceof Pair x) {
            return 1 + sizeOf(x.first) + sizeOf(x.second);
        }
        return t instanceof Binder x ? 1 + sizeOf(x.in) : 1;
    }

    static int depthOf(Term t) {
        if (t instanceof Sign x) {
            return 1 + depthOf(x.of);
        }
        if (t instanceof Pair x) {
            return 1 + Math.max(depthOf(x.first), depthOf(x.second));
        }
        return t instanceof Binder x ? 1 + depthOf(x.in) : 1;
    }

    static int unknownsOf(Term t) {
        if (t instanceof Unknown x) {
            return 1 << x.u;
        }
        if (t instanceof Sign x) {
            return unknownsOf(x.of);
        }
        if (t instanceof Pair x) {
            return unknownsOf(x.first) | unknownsOf(x.second);
        }
        return t instanceof Binder x ? unknownsOf(x.in) : 0;
    }

    /** Whether a NAME is FRESH in a TERM, by what is FRESH in UNKNOWNS. */
    static boolean isFresh(int n, Term t, int[] fresh) {
        if (t instanceof Name x) {
            return x.n != n;
        }
        if (t instanceof Unknown x) {
            return (fresh[x.u] >> back(x.pending)[n] & 1) != 0;
        }
        if (t instanceof Sign x) {
            return isFresh(n, x.of, fresh);
        }
        if (t instanceof Pair x) {
            return isFresh(n, x.first, fresh) && isFresh(n, x.second, fresh);
        }
        return !(t instanceof Binder x) || x.n == n || isFresh(n, x.in, fresh);
    }

    static boolean isAlike(Term s, Term t, int[] fresh) {
        if (s instanceof Name x && t instanceof Name y) {
            return x.n == y.n;
        }
        if (s instanceof Nothing && t instanceof Nothing) {
            return true;
        }
        if (s instanceof Sign x && t instanceof Sign y) {
            return x.figure == y.figure && isAlike(x.of, y.of, fresh);
        }
        if (s instanceof Pair x && t instanceof Pair y) {
            return isAlike(x.first, y.first, fresh) && isAlike(x.second, y.second, fresh);
        }
        if (s instanceof Binder x && t instanceof Binder y) {
            if (x.n == y.n) {
                return isAlike(x.in, y.in, fresh);
            }
            return isFresh(x.n, y.in, fresh) && isAlike(x.in, turned(swap(x.n, y.n), y.in), fresh);
        }
        if (s instanceof Unknown x && t instanceof Unknown y && x.u == y.u) {
            for (int n = 0; n < 6; n++) {
                if (x.pending[n] != y.pending[n] && (fresh[x.u] >> n & 1) == 0) {
                    return false;
                }
            }
            return true;
        }
        return false;
    }

    int[] toldFresh() {
        int[] out = new int[6];
        List<Integer> text = well(8);
        for (int i = 0; i < text.size(); i += 2) {
            out[text.get(i + 1) - 'P'] |= 1 << text.get(i) - 'a';
        }
        return out;
    }

    // ---- solving

    final class Solving {
        final Term[] values = new Term[6];
        final List<Must> musts = new ArrayList<>();
        final int[] fresh = new int[6];
        final Deque<Two> pile = new ArrayDeque<>();
        int why = 0;
        int where = -1;
        int steps = 0;
        int given = 0;

        Solving(int[] order) {
            for (int equation : order) {
                if (why == 0 && isThere(equation)) {
                    solve(equation);
                }
            }
            if (why == 0) {
                int[] told = toldFresh();
                for (int u = 0; u < 6; u++) {
                    for (int n = 0; n < 6; n++) {
                        if ((told[u] >> n & 1) != 0) {
                            musts.add(new Must(n, new Unknown(still(), u)));
                        }
                    }
                }
                Set<Integer> seen = new HashSet<>();
                for (Must must : musts) {
                    look(must.n, must.in, seen);
                }
            }
        }

        private void solve(int equation) {
            pile.push(new Two(termOf(2 * equation), termOf(2 * equation + 1)));
            while (!pile.isEmpty() && why == 0) {
                if (steps == 600) {
                    why = 4;
                } else {
                    steps++;
                    Two two = pile.pop();
                    step(root(two.left), root(two.right));
                }
            }
            if (why != 0) {
                where = equation;
            }
        }

        private Term root(Term t) {
            while (t instanceof Unknown x && values[x.u] != null) {
                t = turned(x.pending, values[x.u]);
            }
            return t;
        }

        private void step(Term left, Term right) {
            if (left instanceof Unknown x && right instanceof Unknown y) {
                if (x.u == y.u) {
                    for (int n = 0; n < 6; n++) {
                        if (x.pending[n] != y.pending[n]) {
                            musts.add(new Must(n, new Unknown(still(), x.u)));
                        }
                    }
                } else if (x.u > y.u) {
                    give(x, y);
                } else {
                    give(y, x);
                }
            } else if (left instanceof Unknown x) {
                give(x, right);
            } else if (right instanceof Unknown y) {
                give(y, left);
            } else if (left instanceof Sign x && right instanceof Sign y && x.figure == y.figure) {
                pile.push(new Two(x.of, y.of));
            } else if (left instanceof Pair x && right instanceof Pair y) {
                pile.push(new Two(x.second, y.second));
                pile.push(new Two(x.first, y.first));
            } else if (left instanceof Binder x && right instanceof Binder y) {
                if (x.n == y.n) {
                    pile.push(new Two(x.in, y.in));
                } else {
                    musts.add(new Must(x.n, y.in));
                    pile.push(new Two(x.in, turned(swap(x.n, y.n), y.in)));
                }
            } else if (left instanceof Name x && right instanceof Name y && x.n == y.n) {
                return;
            } else if (!(left instanceof Nothing && right instanceof Nothing)) {
                why = 1;
            }
        }

        private void give(Unknown open, Term t) {
            if ((reach(unknownsOf(t)) >> open.u & 1) != 0) {
                why = 2;
            } else {
                values[open.u] = turned(back(open.pending), t);
                given++;
            }
        }

        /** UNKNOWNS in these, all VALUES put in, those with a VALUE too. */
        int reach(int unknowns) {
            int all = unknowns;
            for (int round = 0; round < 6; round++) {
                for (int u = 0; u < 6; u++) {
                    if ((all >> u & 1) != 0 && values[u] != null) {
                        all |= unknownsOf(values[u]);
                    }
                }
            }
            return all;
        }

        private void look(int n, Term t, Set<Integer> seen) {
            if (t instanceof Name x && x.n == n) {
                why = 3;
            } else if (t instanceof Unknown x) {
                int m = back(x.pending)[n];
                fresh[x.u] |= values[x.u] == null ? 1 << m : 0;
                if (values[x.u] != null && seen.add(6 * x.u + m)) {
                    look(m, values[x.u], seen);
                }
            } else if (t instanceof Sign x) {
                look(n, x.of, seen);
            } else if (t instanceof Pair x) {
                look(n, x.first, seen);
                look(n, x.second, seen);
            } else if (t instanceof Binder x && x.n != n) {
                look(n, x.in, seen);
            }
        }

        int tell(int what) {
            return new int[] {why, where, steps, given}[what];
        }
    }

    Solving solving() {
        return new Solving(new int[] {0, 1, 2, 3});
    }

    static List<int[]> orders() {
        Set<String> words = new TreeSet<>();
        for (int i = 0; i < 256; i++) {
            String word = "" + (i >> 6) + (i >> 4 & 3) + (i >> 2 & 3) + (i & 3);
            if (word.chars().distinct().count() == 4) {
                words.add(word);
            }
        }
        List<int[]> out = new ArrayList<>();
        for (String word : words) {
            out.add(word.chars().map(c -> c - '0').toArray());
        }
        return out;
    }

    // ---- the face

    private static boolean out(int i, int bound) {
        return i < 0 || i >= bound;
    }

    private static boolean noPlace(int i) {
        return i < -1 || i > 59;
    }

    private int finding(int number) {
        latest = number;
        return -10 - number;
    }

    int type(int text, int b) {
        if (out(text, 10) || out(b, 256)) {
            return -2;
        }
        if (texts.get(text).size() == (text < 8 ? 30 : 24)) {
            return -4;
        }
        texts.get(text).add(b);
        return texts.get(text).size();
    }

    int wipe(int text) {
        if (out(text, 10)) {
            return -2;
        }
        int had = texts.get(text).size();
        texts.get(text).clear();
        return had;
    }

    int undo(int text) {
        if (out(text, 10)) {
            return -2;
        }
        List<Integer> bytes = texts.get(text);
        if (bytes.isEmpty()) {
            return -3;
        }
        bytes.remove(bytes.size() - 1);
        return bytes.size();
    }

    int fault(int text) {
        return out(text, 10) ? -2 : faultOf(text);
    }

    int read(int text, int s) {
        if (out(text, 10) || out(s, 4)) {
            return -2;
        }
        if (sheets[s] == null) {
            return finding(1);
        }
        int many = 0;
        while (many < sheets[s].length && type(text, sheets[s][many]) >= 0) {
            many++;
        }
        return many;
    }

    int turn(int name, int what) {
        if (out(name, 6) || out(what, 2)) {
            return -2;
        }
        return what == 0 ? theTurn()[name] : back(theTurn())[name];
    }

    int power(int name, int k) {
        if (out(name, 6)) {
            return -2;
        }
        int[] by = k < 0 ? back(theTurn()) : theTurn();
        long times = Math.abs((long) k) % rounds(0);
        int n = name;
        for (long i = 0; i < times; i++) {
            n = by[n];
        }
        return n;
    }

    int rounds(int what) {
        if (out(what, 4)) {
            return -2;
        }
        int[] turn = theTurn();
        int order = 1;
        for (int[] now = turn; !Arrays.equals(now, still()); now = then(now, turn)) {
            order++;
        }
        int upsideDown = 0;
        int rings = 0;
        int stay = 0;
        for (int n = 0; n < 6; n++) {
            for (int m = n + 1; m < 6; m++) {
                upsideDown += turn[n] > turn[m] ? 1 : 0;
            }
            int least = n;
            for (int m = turn[n]; m != n; m = turn[m]) {
                least = Math.min(least, m);
            }
            rings += least == n && turn[n] != n ? 1 : 0;
            stay |= turn[n] == n ? 1 << n : 0;
        }
        return new int[] {order, 1 - upsideDown % 2, rings, stay}[what];
    }

    int shows(int i) {
        return noPlace(i) ? -2 : told(showTurn(theTurn()), i);
    }

    int term(int text, int what) {
        if (out(text, 8) || out(what, 4)) {
            return -2;
        }
        Term t = termOf(text);
        if (t == null) {
            return 0;
        }
        int[] all = {63, 63, 63, 63, 63, 63};
        int loose = 0;
        for (int n = 0; n < 6; n++) {
            loose |= isFresh(n, t, all) ? 0 : 1 << n;
        }
        return new int[] {sizeOf(t), depthOf(t), loose, unknownsOf(t)}[what];
    }

    int shown(int text, int i) {
        return out(text, 8) || noPlace(i) ? -2 : told(shownAs(termOf(text), new Term[6]), i);
    }

    int turned(int text, int i) {
        if (out(text, 8) || noPlace(i)) {
            return -2;
        }
        Term t = termOf(text);
        return told(t == null ? "" : shownAs(turned(theTurn(), t), new Term[6]), i);
    }

    int alike(int equation) {
        if (out(equation, 4)) {
            return -2;
        }
        if (!isThere(equation)) {
            return -3;
        }
        return isAlike(termOf(2 * equation), termOf(2 * equation + 1), toldFresh()) ? 1 : 0;
    }

    int solved(int what) {
        return out(what, 4) ? -2 : solving().tell(what);
    }

    String valueOf(int unknown) {
        Solving all = solving();
        return all.why == 0 ? shownAs(new Unknown(still(), unknown), all.values) : "";
    }

    int value(int unknown, int i) {
        return out(unknown, 6) || noPlace(i) ? -2 : told(valueOf(unknown), i);
    }

    int fresh(int unknown) {
        if (out(unknown, 6)) {
            return -2;
        }
        Solving all = solving();
        return all.why == 0 ? all.fresh[unknown] : 0;
    }

    int needs(int unknown) {
        if (out(unknown, 6)) {
            return -2;
        }
        Solving all = solving();
        int bits = all.why == 0 ? all.reach(1 << unknown) : 0;
        for (int u = 0; u < 6; u++) {
            bits &= all.values[u] == null ? -1 : ~(1 << u);
        }
        return bits;
    }

    int way(int k, int what) {
        return out(k, 24) || out(what, 4) ? -2 : new Solving(orders().get(k)).tell(what);
    }

    int spare() {
        if (solving().why == 0) {
            return -1;
        }
        for (int e = 0; e < 4; e++) {
            int without = e;
            if (new Solving(Arrays.stream(new int[] {0, 1, 2, 3}).filter(i -> i != without).toArray()).why == 0) {
                return e;
            }
        }
        return -1;
    }

    int sheet(int s, int form, int n) {
        if (out(s, 4) || out(form, 3) || n > 60) {
            return -2;
        }
        if (n < 0) {
            return finding(5);
        }
        sheets[s] = new int[n];
        forms[s] = form;
        return n;
    }

    int lose(int s) {
        if (out(s, 4)) {
            return -2;
        }
        if (sheets[s] == null) {
            return finding(1);
        }
        int had = sheets[s].length;
        sheets[s] = null;
        return had;
    }

    int lay(int s, int form, int i, int v) {
        if (out(s, 4) || out(form, 3)) {
            return -2;
        }
        if (sheets[s] == null) {
            return finding(1);
        }
        if (forms[s] != form) {
            return finding(3);
        }
        if (out(i, sheets[s].length)) {
            return finding(2);
        }
        sheets[s][i] = form == 0 ? (byte) v : form == 1 ? (short) v : v;
        return 1;
    }

    int get(int s, int form, int i) {
        if (out(s, 4) || out(form, 3)) {
            return LEAST;
        }
        if (sheets[s] == null || forms[s] != form || out(i, sheets[s].length)) {
            finding(sheets[s] == null ? 1 : forms[s] != form ? 3 : 2);
            return LEAST;
        }
        return sheets[s][i];
    }

    int copy(int s, int i, int t, int j, int n) {
        if (out(s, 4) || out(t, 4)) {
            return -2;
        }
        if (sheets[s] == null || sheets[t] == null) {
            return finding(1);
        }
        if (forms[s] != forms[t]) {
            return finding(4);
        }
        if (i < 0 || j < 0 || n < 0 || (long) i + n > sheets[s].length || (long) j + n > sheets[t].length) {
            return finding(2);
        }
        int[] before = sheets[s].clone();
        for (int k = 0; k < n; k++) {
            sheets[t][j + k] = before[i + k];
        }
        return 1;
    }

    int write(int unknown, int s) {
        if (out(unknown, 6) || out(s, 4)) {
            return -2;
        }
        if (sheets[s] == null) {
            return finding(1);
        }
        String shown = valueOf(unknown);
        int many = 0;
        while (many < shown.length() && many < sheets[s].length) {
            sheets[s][many] = shown.charAt(many);
            many++;
        }
        return many;
    }

    int count(int what) {
        if (out(what, 9)) {
            return -2;
        }
        if (what < 4) {
            return isThere(what) ? 1 : 0;
        }
        return switch (what) {
            case 4 -> texts.stream().mapToInt(List::size).sum();
            case 5 -> solving().why;
            case 6 -> solving().steps;
            case 7 -> showTurn(theTurn()).length() / 3;
            default -> latest;
        };
    }
}
