import java.util.Arrays;

/** Unifier for terms with named binders; ../shared/DOC.md says what each call promises. */
public final class SwapNames {
    public static final int NONE = -1, BAD = -2, NOT = -3, FULL = -4;

    private static final int NAMES = 6, UNKNOWNS = 6, EQUATIONS = 4;
    private static final int TEXTS = 10, TERMS = 8, FRESH_TEXT = 8, SWAPS_TEXT = 9;
    private static final int LONGEST = 30, SHORTER = 24, TOLD = 60;
    private static final int NODES = TERMS * LONGEST;

    private static final int OTHER = 0, NAME = 1, UNKNOWN = 2, NOTHING = 3, SIGN = 4, PAIR = 5, BINDER = 6, SWAP = 7;

    private static final int ANSWER = 0, CLASH = 1, LOOP = 2, BOUND = 3, LONG = 4;
    private static final int MOST_STEPS = 600;

    private static final int SHEETS = 4, FORMS = 3, ITEMS = 60, LOST = -1;
    private static final int NULL = 1, INDEX = 2, CAST = 3, STORE = 4, SIZE = 5;

    private static final int ORDERS = 24, ALL_EQUATIONS = 15;

    /** The orders of the four EQUATIONS, a figure of four bits for each place, the first place highest. */
    private static final int[] ORDER = {
        0x0123, 0x0132, 0x0213, 0x0231, 0x0312, 0x0321,
        0x1023, 0x1032, 0x1203, 0x1230, 0x1302, 0x1320,
        0x2013, 0x2031, 0x2103, 0x2130, 0x2301, 0x2310,
        0x3012, 0x3021, 0x3102, 0x3120, 0x3201, 0x3210};

    private final Texts texts;
    private final Sheets sheets = new Sheets();
    private final Solver solver;
    // Tries (ways, spare, alike) have a solver of their own, so that the VALUES of the answer stay.
    private final Solver trial;
    private boolean settled = false;
    private final int[] ways = new int[ORDERS * 4];
    private int waysKnown = 0;
    private final int[] noValues = new int[UNKNOWNS];
    // Bytes are asked for one by one: each line stays until a text changes or another thing is asked for.
    private final Line shownLine = new Line();
    private final Line turnedLine = new Line();
    private final Line valueLine = new Line();
    private final Line turnLine = new Line();

    public SwapNames() {
        Texts all = new Texts();
        texts = all;
        solver = new Solver(all);
        trial = new Solver(all);
        Arrays.fill(noValues, NONE);
    }

    // ---- texts

    public int type(int text, int b) {
        if (isOutside(text, TEXTS) || isOutside(b, 256)) {
            return BAD;
        }
        if (!texts.append(text, b)) {
            return FULL;
        }
        noteChange(text);
        return texts.lengthOf(text);
    }

    public int wipe(int text) {
        if (isOutside(text, TEXTS)) {
            return BAD;
        }
        int had = texts.lengthOf(text);
        texts.shorten(text, 0);
        noteChange(text);
        return had;
    }

    public int undo(int text) {
        if (isOutside(text, TEXTS)) {
            return BAD;
        }
        int had = texts.lengthOf(text);
        if (had == 0) {
            return NOT;
        }
        texts.shorten(text, had - 1);
        noteChange(text);
        return had - 1;
    }

    public int fault(int text) {
        return isOutside(text, TEXTS) ? BAD : texts.faultOf(text);
    }

    public int read(int text, int s) {
        if (isOutside(text, TEXTS) || isOutside(s, SHEETS)) {
            return BAD;
        }
        if (sheets.isLost(s)) {
            return sheets.find(NULL);
        }
        int size = sheets.sizeOf(s);
        int taken = 0;
        for (int i = 0; i < size; i++) {
            int b = sheets.item(s, i);
            if (isOutside(b, 256) || !texts.append(text, b)) {
                break;
            }
            taken++;
        }
        noteChange(text);
        return taken;
    }

    // ---- THE TURN

    public int turn(int name, int what) {
        if (isOutside(name, NAMES) || isOutside(what, 2)) {
            return BAD;
        }
        return what == 0 ? Turns.image(texts.theTurn, name) : Turns.source(texts.theTurn, name);
    }

    public int power(int name, int k) {
        if (isOutside(name, NAMES)) {
            return BAD;
        }
        // A ring has 1 to 6 NAMES, and 60 can be divided by each of these: 60 times bring all back.
        int times = Math.floorMod(k, 60);
        int n = name;
        for (int i = 0; i < times; i++) {
            n = Turns.image(texts.theTurn, n);
        }
        return n;
    }

    public int rounds(int what) {
        int theTurn = texts.theTurn;
        int moved = Turns.unlike(theTurn, Turns.STILL);
        switch (what) {
            case 0:
                return Turns.order(theTurn);
            case 1:
                return Turns.swaps(theTurn) % 2 == 0 ? 1 : 0;
            case 2:
                // A ring of n NAMES is shown by n - 1 SWAPS, so each ring leaves one NAME over.
                return Integer.bitCount(moved) - Turns.swaps(theTurn);
            case 3:
                return ~moved & (1 << NAMES) - 1;
            default:
                return BAD;
        }
    }

    public int shows(int i) {
        if (isNoPlace(i)) {
            return BAD;
        }
        if (turnLine.isToShow(0)) {
            turnLine.putTurn(texts.theTurn);
        }
        return turnLine.tell(i);
    }

    // ---- terms

    public int term(int text, int what) {
        if (isOutside(text, TERMS) || isOutside(what, 4)) {
            return BAD;
        }
        return texts.isWell(text) ? texts.measureOf(text, what) : 0;
    }

    public int shown(int text, int i) {
        if (isOutside(text, TERMS) || isNoPlace(i)) {
            return BAD;
        }
        if (shownLine.isToShow(text) && texts.isWell(text)) {
            shownLine.putTerm(texts, noValues, Spots.make(text * LONGEST, Turns.STILL));
        }
        return shownLine.tell(i);
    }

    public int turned(int text, int i) {
        if (isOutside(text, TERMS) || isNoPlace(i)) {
            return BAD;
        }
        if (turnedLine.isToShow(text) && texts.isWell(text)) {
            turnedLine.putTerm(texts, noValues, Spots.make(text * LONGEST, texts.theTurn));
        }
        return turnedLine.tell(i);
    }

    public int alike(int equation) {
        if (isOutside(equation, EQUATIONS)) {
            return BAD;
        }
        if (!texts.isThere(equation)) {
            return NOT;
        }
        trial.run(ORDER[0], 1 << equation, true);
        return trial.needsNoMoreThanTold() ? 1 : 0;
    }

    // ---- solving

    public int solved(int what) {
        if (isOutside(what, 4)) {
            return BAD;
        }
        settle();
        return solver.finding(what);
    }

    public int value(int unknown, int i) {
        if (isOutside(unknown, UNKNOWNS) || isNoPlace(i)) {
            return BAD;
        }
        settle();
        showValue(unknown);
        return valueLine.tell(i);
    }

    public int fresh(int unknown) {
        if (isOutside(unknown, UNKNOWNS)) {
            return BAD;
        }
        settle();
        return solver.freshNames(unknown);
    }

    public int needs(int unknown) {
        if (isOutside(unknown, UNKNOWNS)) {
            return BAD;
        }
        settle();
        return solver.openUnknowns(unknown);
    }

    public int way(int k, int what) {
        if (isOutside(k, ORDERS) || isOutside(what, 4)) {
            return BAD;
        }
        if ((waysKnown >> k & 1) == 0) {
            trial.run(ORDER[k], ALL_EQUATIONS, false);
            for (int i = 0; i < 4; i++) {
                ways[4 * k + i] = trial.finding(i);
            }
            waysKnown |= 1 << k;
        }
        return ways[4 * k + what];
    }

    public int spare() {
        settle();
        if (solver.finding(0) == ANSWER) {
            return NONE;
        }
        for (int equation = 0; equation < EQUATIONS; equation++) {
            trial.run(ORDER[0], ALL_EQUATIONS & ~(1 << equation), false);
            if (trial.finding(0) == ANSWER) {
                return equation;
            }
        }
        return NONE;
    }

    // ---- sheets

    public int sheet(int s, int form, int n) {
        if (isOutside(s, SHEETS) || isOutside(form, FORMS) || n > ITEMS) {
            return BAD;
        }
        if (n < 0) {
            return sheets.find(SIZE);
        }
        sheets.make(s, form, n);
        return n;
    }

    public int lose(int s) {
        if (isOutside(s, SHEETS)) {
            return BAD;
        }
        if (sheets.isLost(s)) {
            return sheets.find(NULL);
        }
        int had = sheets.sizeOf(s);
        sheets.make(s, LOST, 0);
        return had;
    }

    public int lay(int s, int form, int i, int v) {
        if (isOutside(s, SHEETS) || isOutside(form, FORMS)) {
            return BAD;
        }
        int finding = sheets.wrongWith(s, form, i);
        if (finding != 0) {
            return sheets.find(finding);
        }
        sheets.put(s, i, v);
        return 1;
    }

    public int get(int s, int form, int i) {
        if (isOutside(s, SHEETS) || isOutside(form, FORMS)) {
            return Integer.MIN_VALUE;
        }
        int finding = sheets.wrongWith(s, form, i);
        if (finding != 0) {
            sheets.find(finding);
            return Integer.MIN_VALUE;
        }
        return sheets.item(s, i);
    }

    public int copy(int s, int i, int t, int j, int n) {
        if (isOutside(s, SHEETS) || isOutside(t, SHEETS)) {
            return BAD;
        }
        if (sheets.isLost(s) || sheets.isLost(t)) {
            return sheets.find(NULL);
        }
        if (sheets.formOf(s) != sheets.formOf(t)) {
            return sheets.find(STORE);
        }
        if (!sheets.hasItems(s, i, n) || !sheets.hasItems(t, j, n)) {
            return sheets.find(INDEX);
        }
        sheets.move(s, i, t, j, n);
        return 1;
    }

    public int write(int unknown, int s) {
        if (isOutside(unknown, UNKNOWNS) || isOutside(s, SHEETS)) {
            return BAD;
        }
        if (sheets.isLost(s)) {
            return sheets.find(NULL);
        }
        settle();
        showValue(unknown);
        int many = Math.min(valueLine.tell(NONE), sheets.sizeOf(s));
        for (int i = 0; i < many; i++) {
            sheets.put(s, i, valueLine.tell(i));
        }
        return many;
    }

    public int count(int what) {
        if (!isOutside(what, EQUATIONS)) {
            return texts.isThere(what) ? 1 : 0;
        }
        switch (what) {
            case 4:
                return texts.allBytes();
            case 5:
                settle();
                return solver.finding(0);
            case 6:
                settle();
                return solver.finding(2);
            case 7:
                return Turns.swaps(texts.theTurn);
            case 8:
                return sheets.latest;
            default:
                return BAD;
        }
    }

    public long digest() {
        long h = 17;
        for (int what = 0; what < 8; what++) {
            h = 31 * h + count(what);
        }
        for (int text = 0; text < TEXTS; text++) {
            h = 31 * h + fault(text);
        }
        for (int name = 0; name < NAMES; name++) {
            h = 31 * h + turn(name, 0);
            h = 31 * h + turn(name, 1);
            h = 31 * h + power(name, 2);
            h = 31 * h + power(name, -3);
        }
        for (int what = 0; what < 4; what++) {
            h = 31 * h + rounds(what);
        }
        for (int i = NONE; i < 15; i++) {
            h = 31 * h + shows(i);
        }
        for (int text = 0; text < TERMS; text++) {
            for (int what = 0; what < 4; what++) {
                h = 31 * h + term(text, what);
            }
            for (int i = NONE; i < LONGEST; i++) {
                h = 31 * h + shown(text, i);
                h = 31 * h + turned(text, i);
            }
        }
        for (int equation = 0; equation < EQUATIONS; equation++) {
            h = 31 * h + alike(equation);
        }
        for (int what = 0; what < 4; what++) {
            h = 31 * h + solved(what);
        }
        for (int unknown = 0; unknown < UNKNOWNS; unknown++) {
            for (int i = NONE; i < TOLD; i++) {
                h = 31 * h + value(unknown, i);
            }
            h = 31 * h + fresh(unknown);
            h = 31 * h + needs(unknown);
        }
        for (int k = 0; k < ORDERS; k++) {
            for (int what = 0; what < 4; what++) {
                h = 31 * h + way(k, what);
            }
        }
        return 31 * h + spare();
    }

    private static boolean isOutside(int number, int bound) {
        return number < 0 || number >= bound;
    }

    private static boolean isNoPlace(int i) {
        return i < NONE || i >= TOLD;
    }

    private void noteChange(int text) {
        texts.scan(text);
        settled = false;
        waysKnown = 0;
        shownLine.forget();
        turnedLine.forget();
        valueLine.forget();
        turnLine.forget();
    }

    private void settle() {
        if (!settled) {
            solver.run(ORDER[0], ALL_EQUATIONS, false);
            settled = true;
        }
    }

    private void showValue(int unknown) {
        if (!valueLine.isToShow(unknown) || solver.finding(0) != ANSWER) {
            return;
        }
        int spot = solver.values[unknown];
        if (spot == NONE) {
            valueLine.putByte('P' + unknown);
        } else {
            valueLine.putTerm(texts, solver.values, spot);
        }
    }

    /** A TURN as one number: six figures of three bits, figure n is the NAME that n is taken to. */
    private static final class Turns {
        static final int STILL = 5 << 15 | 4 << 12 | 3 << 9 | 2 << 6 | 1 << 3;

        static int image(int by, int name) {
            return by >> 3 * name & 7;
        }

        /** The NAME that is taken to this one. */
        static int source(int by, int name) {
            for (int n = 0; n < NAMES; n++) {
                if ((by >> 3 * n & 7) == name) {
                    return n;
                }
            }
            return name;
        }

        static int back(int by) {
            int out = 0;
            for (int n = 0; n < NAMES; n++) {
                out |= n << 3 * (by >> 3 * n & 7);
            }
            return out;
        }

        static int join(int late, int early) {
            int out = 0;
            for (int n = 0; n < NAMES; n++) {
                out |= (late >> 3 * (early >> 3 * n & 7) & 7) << 3 * n;
            }
            return out;
        }

        /** First the SWAP of two NAMES, then the TURN: their two figures change places. */
        static int swapFirst(int by, int x, int y) {
            int unlike = (by >> 3 * x ^ by >> 3 * y) & 7;
            return by ^ unlike << 3 * x ^ unlike << 3 * y;
        }

        /** First the TURN, then the SWAP of two NAMES. */
        static int swapLast(int by, int x, int y) {
            return swapFirst(by, source(by, x), source(by, y));
        }

        /** The NAMES that are not taken to one NAME, as bits. */
        static int unlike(int one, int other) {
            int bits = 0;
            for (int n = 0; n < NAMES; n++) {
                if (((one ^ other) >> 3 * n & 7) != 0) {
                    bits |= 1 << n;
                }
            }
            return bits;
        }

        /** NAMES as bits, all turned back. */
        static int sources(int by, int names) {
            int bits = 0;
            for (int n = 0; n < NAMES; n++) {
                bits |= (names >> (by >> 3 * n & 7) & 1) << n;
            }
            return bits;
        }

        static int order(int by) {
            int now = by;
            int times = 1;
            // No TURN of six NAMES needs more than six rounds.
            while (now != STILL && times < NAMES) {
                now = join(by, now);
                times++;
            }
            return times;
        }

        /** By how many SWAPS it is SHOWN. */
        static int swaps(int by) {
            int left = by;
            int many = 0;
            for (int n = 0; n < NAMES; n++) {
                int m = image(left, n);
                if (m != n) {
                    left = swapLast(left, n, m);
                    many++;
                }
            }
            return many;
        }
    }

    /** A place where a TERM starts, with the TURN that it is under, as one number. */
    private static final class Spots {
        static int make(int node, int by) {
            return node << 18 | by;
        }

        static int node(int spot) {
            return spot >> 18;
        }

        static int by(int spot) {
            return spot & (1 << 18) - 1;
        }

        /** The place so many bytes further on, under the same TURN. */
        static int further(int spot, int bytes) {
            return spot + (bytes << 18);
        }
    }

    /** All texts; a byte of a TERM has the number text * LONGEST + place, its node. */
    private static final class Texts {
        private final int[] bytes = new int[TEXTS * LONGEST];
        private final int[] kinds = new int[TEXTS * LONGEST];
        private final int[] lengths = new int[TEXTS];
        private final int[] faults = new int[TEXTS];
        // Of the TERM that starts at a node of a well text: the node behind it, and its measures.
        private final int[] behind = new int[NODES];
        private final int[] sizes = new int[NODES];
        private final int[] depths = new int[NODES];
        private final int[] looseNames = new int[NODES];
        private final int[] unknowns = new int[NODES];
        private final int[] toldFresh = new int[UNKNOWNS];
        private int theTurn = Turns.STILL;

        Texts() {
            Arrays.fill(faults, NONE);
        }

        boolean append(int text, int b) {
            int length = lengths[text];
            if (length >= (text < TERMS ? LONGEST : SHORTER)) {
                return false;
            }
            bytes[text * LONGEST + length] = b;
            kinds[text * LONGEST + length] = kindOf(b);
            lengths[text] = length + 1;
            return true;
        }

        void shorten(int text, int length) {
            lengths[text] = length;
        }

        int lengthOf(int text) {
            return lengths[text];
        }

        int faultOf(int text) {
            return faults[text];
        }

        boolean isWell(int text) {
            return lengths[text] > 0 && faults[text] == NONE;
        }

        boolean isThere(int equation) {
            return isWell(2 * equation) && isWell(2 * equation + 1);
        }

        int allBytes() {
            int sum = 0;
            for (int text = 0; text < TEXTS; text++) {
                sum += lengths[text];
            }
            return sum;
        }

        int measureOf(int text, int what) {
            int node = text * LONGEST;
            switch (what) {
                case 0:
                    return sizes[node];
                case 1:
                    return depths[node];
                case 2:
                    return looseNames[node];
                default:
                    return unknowns[node];
            }
        }

        int kindAt(int node) {
            return node < 0 || node >= NODES ? OTHER : kinds[node];
        }

        int byteAt(int node) {
            return node < 0 || node >= NODES ? 0 : bytes[node];
        }

        /** The NAME that stands there; 0 if there is none. */
        int nameAt(int node) {
            return node < 0 || node >= NODES || kinds[node] != NAME ? 0 : bytes[node] - 'a';
        }

        /** The UNKNOWN that stands there; NONE. */
        int unknownAt(int node) {
            return node < 0 || node >= NODES || kinds[node] != UNKNOWN ? NONE : bytes[node] - 'P';
        }

        /** The UNKNOWNS in the TERM that starts there, as bits. */
        int unknownsFrom(int node) {
            return node < 0 || node >= NODES ? 0 : unknowns[node];
        }

        /** How many bytes the first TERM of a PAIR has. */
        int firstLength(int pair) {
            return pair < 0 || pair + 1 >= NODES ? 0 : behind[pair + 1] - pair - 1;
        }

        /** The second TERM of a PAIR, under the same TURN. */
        int secondOf(int spot) {
            return Spots.further(spot, 1 + firstLength(Spots.node(spot)));
        }

        int toldFreshIn(int unknown) {
            return toldFresh[unknown];
        }

        /** What is under SWAPS, and UNKNOWNS that have a VALUE, is gone into until it is neither. */
        int enter(int spot, int[] values) {
            int now = spot;
            // A chain without an end would be a LOOP, so it passes each node at most once.
            for (int i = 0; i <= NODES; i++) {
                int node = Spots.node(now);
                int unknown = unknownAt(node);
                if (kindAt(node) == SWAP) {
                    now = Spots.make(node + 3, Turns.swapFirst(Spots.by(now), nameAt(node + 1), nameAt(node + 2)));
                } else if (unknown != NONE && values[unknown] != NONE) {
                    int inner = values[unknown];
                    now = Spots.make(Spots.node(inner), Turns.join(Spots.by(now), Spots.by(inner)));
                } else {
                    break;
                }
            }
            return now;
        }

        /** Must follow each change of a text: all that is told of it is found anew. */
        void scan(int text) {
            if (text < TERMS) {
                faults[text] = faultOfTerm(text);
                if (isWell(text)) {
                    int start = text * LONGEST;
                    for (int node = start + lengths[text] - 1; node >= start; node--) {
                        weigh(node);
                    }
                }
            } else if (text == FRESH_TEXT) {
                faults[text] = faultOfTwos(text, UNKNOWN);
                findToldFresh();
            } else {
                faults[text] = faultOfTwos(text, NAME);
                findTheTurn();
            }
        }

        private static int kindOf(int b) {
            if (b >= 'a' && b <= 'f') {
                return NAME;
            }
            if (b >= 'P' && b <= 'U') {
                return UNKNOWN;
            }
            if (b >= '0' && b <= '4') {
                return SIGN;
            }
            switch (b) {
                case '*':
                    return NOTHING;
                case ',':
                    return PAIR;
                case '.':
                    return BINDER;
                case '!':
                    return SWAP;
                default:
                    return OTHER;
            }
        }

        private int faultOfTerm(int text) {
            int length = lengths[text];
            int namesDue = 0;
            int termsDue = 1;
            for (int i = 0; i < length; i++) {
                int kind = kinds[text * LONGEST + i];
                if (namesDue > 0) {
                    if (kind != NAME) {
                        return i;
                    }
                    namesDue--;
                } else if (termsDue == 0 || kind == OTHER) {
                    return i;
                } else if (kind == PAIR) {
                    termsDue++;
                } else if (kind == BINDER) {
                    namesDue = 1;
                } else if (kind == SWAP) {
                    namesDue = 2;
                } else if (kind != SIGN) {
                    termsDue--;
                }
            }
            return length == 0 || termsDue == 0 ? NONE : length;
        }

        private int faultOfTwos(int text, int second) {
            int length = lengths[text];
            for (int i = 0; i < length; i++) {
                if (kinds[text * LONGEST + i] != (i % 2 == 0 ? NAME : second)) {
                    return i;
                }
            }
            return length % 2 == 0 ? NONE : length;
        }

        private void findToldFresh() {
            Arrays.fill(toldFresh, 0);
            int start = FRESH_TEXT * LONGEST;
            int length = isWell(FRESH_TEXT) ? lengths[FRESH_TEXT] : 0;
            for (int i = 0; i + 1 < length; i += 2) {
                int unknown = bytes[start + i + 1] - 'P';
                if (!isOutside(unknown, UNKNOWNS)) {
                    toldFresh[unknown] |= 1 << bytes[start + i] - 'a';
                }
            }
        }

        private void findTheTurn() {
            theTurn = Turns.STILL;
            int start = SWAPS_TEXT * LONGEST;
            int length = isWell(SWAPS_TEXT) ? lengths[SWAPS_TEXT] : 0;
            for (int i = 0; i + 1 < length; i += 2) {
                theTurn = Turns.swapFirst(theTurn, bytes[start + i] - 'a', bytes[start + i + 1] - 'a');
            }
        }

        /** Measures a TERM from those inside it, which are known: they start further on. */
        private void weigh(int node) {
            switch (kinds[node]) {
                case SIGN:
                case PAIR:
                    weighOver(node, node + 1);
                    break;
                case BINDER:
                    weighOver(node, node + 2);
                    looseNames[node] &= ~(1 << nameAt(node + 1));
                    break;
                case SWAP:
                    weighOver(node, node + 3);
                    int swap = Turns.swapFirst(Turns.STILL, nameAt(node + 1), nameAt(node + 2));
                    looseNames[node] = Turns.sources(swap, looseNames[node]);
                    break;
                default:
                    behind[node] = node + 1;
                    sizes[node] = 1;
                    depths[node] = 1;
                    looseNames[node] = kinds[node] == NAME ? 1 << bytes[node] - 'a' : 0;
                    unknowns[node] = kinds[node] == UNKNOWN ? 1 << bytes[node] - 'P' : 0;
                    break;
            }
        }

        private void weighOver(int node, int inner) {
            if (isOutside(inner, NODES)) {
                return;
            }
            int own = kinds[node] == SWAP ? 0 : 1;
            behind[node] = behind[inner];
            sizes[node] = sizes[inner] + own;
            depths[node] = depths[inner] + own;
            looseNames[node] = looseNames[inner];
            unknowns[node] = unknowns[inner];
            int second = behind[inner];
            if (kinds[node] == PAIR && !isOutside(second, NODES)) {
                behind[node] = behind[second];
                sizes[node] += sizes[second];
                depths[node] = Math.max(depths[node], depths[second] + 1);
                looseNames[node] |= looseNames[second];
                unknowns[node] |= unknowns[second];
            }
        }
    }

    /** What is SHOWN, as far as it is told. */
    private static final class Line {
        private final int[] told = new int[TOLD];
        private int length = 0;
        private int held = NONE;
        private final int[] waiting = new int[TOLD + 2];
        private int depth = 0;

        void forget() {
            held = NONE;
        }

        /** Whether it shows another thing than the one that is asked for; then it is empty, for that one. */
        boolean isToShow(int thing) {
            if (held == thing) {
                return false;
            }
            held = thing;
            length = 0;
            return true;
        }

        int tell(int i) {
            if (i == NONE) {
                return length;
            }
            return isOutside(i, Math.min(length, TOLD)) ? NONE : told[i];
        }

        void putByte(int b) {
            if (length < TOLD) {
                told[length] = b;
                length++;
            }
        }

        void putTurn(int by) {
            int left = by;
            for (int n = 0; n < NAMES; n++) {
                int m = Turns.image(left, n);
                if (m != n) {
                    putByte('!');
                    putByte('a' + n);
                    putByte('a' + m);
                    left = Turns.swapLast(left, n, m);
                }
            }
        }

        void putTerm(Texts texts, int[] values, int spot) {
            depth = 0;
            await(spot);
            // Each round puts a byte at least, so that more rounds could tell nothing more.
            for (int round = 0; round < TOLD && depth > 0; round++) {
                depth--;
                putTop(texts, texts.enter(waiting[depth], values));
            }
        }

        private void putTop(Texts texts, int spot) {
            int node = Spots.node(spot);
            int by = Spots.by(spot);
            switch (texts.kindAt(node)) {
                case NAME:
                    putByte('a' + Turns.image(by, texts.nameAt(node)));
                    break;
                case UNKNOWN:
                    putTurn(by);
                    putByte(texts.byteAt(node));
                    break;
                case PAIR:
                    putByte(',');
                    await(texts.secondOf(spot));
                    await(Spots.further(spot, 1));
                    break;
                case BINDER:
                    putByte('.');
                    putByte('a' + Turns.image(by, texts.nameAt(node + 1)));
                    await(Spots.further(spot, 2));
                    break;
                case SIGN:
                    putByte(texts.byteAt(node));
                    await(Spots.further(spot, 1));
                    break;
                default:
                    putByte(texts.byteAt(node));
                    break;
            }
        }

        private void await(int spot) {
            if (depth < waiting.length) {
                waiting[depth] = spot;
                depth++;
            }
        }
    }

    /** One SOLVING: its pile, its VALUES and what it found. */
    private static final class Solver {
        private final Texts texts;
        private final int[] values = new int[UNKNOWNS];
        private int valueCount = 0;
        private final int[] lefts = new int[MOST_STEPS + 2];
        private final int[] rights = new int[MOST_STEPS + 2];
        private int height = 0;
        // What must be FRESH is kept as NAMES turned back, by where it must be: no list can grow long.
        private final int[] mustNodes = new int[NODES];
        private final int[] mustUnknowns = new int[UNKNOWNS];
        private int why = ANSWER;
        private int where = NONE;
        private int steps = 0;
        // Whether UNKNOWNS may get no VALUES: then SOLVING an EQUATION is asking whether both are ALIKE.
        private boolean isRigid = false;

        Solver(Texts all) {
            texts = all;
        }

        /** SOLVING in an order, of some EQUATIONS (as bits), those that are there. */
        void run(int order, int which, boolean rigid) {
            clear(rigid);
            for (int place = EQUATIONS - 1; place >= 0 && why == ANSWER; place--) {
                int equation = order >> 4 * place & 3;
                if ((which >> equation & 1) == 0 || !texts.isThere(equation)) {
                    continue;
                }
                int left = 2 * equation * LONGEST;
                pile(Spots.make(left, Turns.STILL), Spots.make(left + LONGEST, Turns.STILL));
                while (height > 0 && why == ANSWER && steps < MOST_STEPS) {
                    steps++;
                    step();
                }
                if (height > 0 && why == ANSWER) {
                    why = LONG;
                }
                where = why == ANSWER ? NONE : equation;
            }
            if (why == ANSWER) {
                spreadFresh();
            }
        }

        /** Whether there is an answer in which FRESH alone has told all that must be. */
        boolean needsNoMoreThanTold() {
            int missing = 0;
            for (int unknown = 0; unknown < UNKNOWNS; unknown++) {
                missing |= mustUnknowns[unknown] & ~texts.toldFreshIn(unknown);
            }
            return why == ANSWER && missing == 0;
        }

        int finding(int what) {
            switch (what) {
                case 0:
                    return why;
                case 1:
                    return where;
                case 2:
                    return steps;
                default:
                    return valueCount;
            }
        }

        int freshNames(int unknown) {
            return why == ANSWER && values[unknown] == NONE ? mustUnknowns[unknown] : 0;
        }

        int openUnknowns(int unknown) {
            if (why != ANSWER) {
                return 0;
            }
            int bits = withValuesIn(1 << unknown);
            for (int u = 0; u < UNKNOWNS; u++) {
                if (values[u] != NONE) {
                    bits &= ~(1 << u);
                }
            }
            return bits;
        }

        private void clear(boolean rigid) {
            isRigid = rigid;
            Arrays.fill(values, NONE);
            Arrays.fill(mustNodes, 0);
            Arrays.fill(mustUnknowns, 0);
            for (int unknown = 0; unknown < UNKNOWNS && !rigid; unknown++) {
                mustUnknowns[unknown] = texts.toldFreshIn(unknown);
            }
            valueCount = 0;
            height = 0;
            why = ANSWER;
            where = NONE;
            steps = 0;
        }

        private void pile(int left, int right) {
            if (height < lefts.length) {
                lefts[height] = left;
                rights[height] = right;
                height++;
            }
        }

        private void step() {
            height--;
            int left = texts.enter(lefts[height], values);
            int right = texts.enter(rights[height], values);
            // NONE is below every UNKNOWN, so that the greater one is always one that may get a VALUE.
            int u = texts.unknownAt(Spots.node(left));
            int v = texts.unknownAt(Spots.node(right));
            int kind = texts.kindAt(Spots.node(left));
            if (u != NONE && u == v) {
                mustUnknowns[u] |= Turns.unlike(Spots.by(left), Spots.by(right));
            } else if (u > v) {
                give(u, left, right);
            } else if (v > u) {
                give(v, right, left);
            } else if (kind != texts.kindAt(Spots.node(right))) {
                why = CLASH;
            } else {
                split(left, right, kind);
            }
        }

        private void give(int unknown, int open, int spot) {
            if (isRigid) {
                why = CLASH;
            } else if ((withValuesIn(texts.unknownsFrom(Spots.node(spot))) >> unknown & 1) != 0) {
                why = LOOP;
            } else {
                values[unknown] = Spots.make(Spots.node(spot), Turns.join(Turns.back(Spots.by(open)), Spots.by(spot)));
                valueCount++;
            }
        }

        private void split(int left, int right, int kind) {
            int node = Spots.node(left);
            int other = Spots.node(right);
            switch (kind) {
                case NAME:
                    int name = Turns.image(Spots.by(left), texts.nameAt(node));
                    if (name != Turns.image(Spots.by(right), texts.nameAt(other))) {
                        why = CLASH;
                    }
                    break;
                case SIGN:
                    if (texts.byteAt(node) == texts.byteAt(other)) {
                        pile(Spots.further(left, 1), Spots.further(right, 1));
                    } else {
                        why = CLASH;
                    }
                    break;
                case PAIR:
                    pile(texts.secondOf(left), texts.secondOf(right));
                    pile(Spots.further(left, 1), Spots.further(right, 1));
                    break;
                case BINDER:
                    int n = Turns.image(Spots.by(left), texts.nameAt(node + 1));
                    int m = Turns.image(Spots.by(right), texts.nameAt(other + 1));
                    if (n != m) {
                        must(other + 2, 1 << Turns.source(Spots.by(right), n));
                    }
                    pile(Spots.further(left, 2), Spots.make(other + 2, Turns.swapLast(Spots.by(right), n, m)));
                    break;
                default:
                    break;
            }
        }

        /** These UNKNOWNS and all that are in their VALUES, in those of these, and so on. */
        private int withValuesIn(int unknowns) {
            int all = unknowns;
            int looked = 0;
            for (int i = 0; i < UNKNOWNS && looked != all; i++) {
                int next = all & ~looked;
                looked = all;
                for (int u = 0; u < UNKNOWNS; u++) {
                    if ((next >> u & 1) != 0 && values[u] != NONE) {
                        all |= texts.unknownsFrom(Spots.node(values[u]));
                    }
                }
            }
            return all;
        }

        private void must(int node, int names) {
            if (!isOutside(node, NODES)) {
                mustNodes[node] |= names;
            }
        }

        /** Whether any of the NAMES is new there. */
        private boolean mustIn(int unknown, int names) {
            if (unknown == NONE || (names & ~mustUnknowns[unknown]) == 0) {
                return false;
            }
            mustUnknowns[unknown] |= names;
            return true;
        }

        /** Takes what must be FRESH down to NAMES and to UNKNOWNS, with all VALUES put in. */
        private void spreadFresh() {
            boolean isMore = true;
            // Each round but the last finds a NAME more for an UNKNOWN.
            for (int round = 0; round <= NAMES * UNKNOWNS && isMore; round++) {
                for (int u = 0; u < UNKNOWNS; u++) {
                    if (values[u] != NONE) {
                        must(Spots.node(values[u]), Turns.sources(Spots.by(values[u]), mustUnknowns[u]));
                    }
                }
                isMore = false;
                for (int node = 0; node < NODES; node++) {
                    if (mustNodes[node] != 0 && passDown(node, mustNodes[node])) {
                        isMore = true;
                    }
                }
            }
        }

        /** A TERM starts behind the one that it is in, so one way through all nodes takes NAMES all down. */
        private boolean passDown(int node, int names) {
            switch (texts.kindAt(node)) {
                case NAME:
                    if ((names >> texts.nameAt(node) & 1) != 0) {
                        why = BOUND;
                    }
                    return false;
                case UNKNOWN:
                    return mustIn(texts.unknownAt(node), names);
                case PAIR:
                    must(node + 1 + texts.firstLength(node), names);
                    must(node + 1, names);
                    return false;
                case SIGN:
                    must(node + 1, names);
                    return false;
                case BINDER:
                    must(node + 2, names & ~(1 << texts.nameAt(node + 1)));
                    return false;
                case SWAP:
                    int swap = Turns.swapFirst(Turns.STILL, texts.nameAt(node + 1), texts.nameAt(node + 2));
                    must(node + 3, Turns.sources(swap, names));
                    return false;
                default:
                    return false;
            }
        }
    }

    /** The SHEETS: rows that are used again, each with the FORM and the size that it has now. */
    private static final class Sheets {
        private final int[] forms = new int[SHEETS];
        private final int[] sizes = new int[SHEETS];
        private final int[] items = new int[SHEETS * ITEMS];
        private int latest = 0;

        Sheets() {
            Arrays.fill(forms, LOST);
        }

        /** Keeps a FINDING as the latest one: its answer. */
        int find(int finding) {
            latest = finding;
            return -10 - finding;
        }

        boolean isLost(int s) {
            return forms[s] == LOST;
        }

        int formOf(int s) {
            return forms[s];
        }

        int sizeOf(int s) {
            return sizes[s];
        }

        void make(int s, int form, int n) {
            forms[s] = form;
            sizes[s] = n;
            Arrays.fill(items, s * ITEMS, s * ITEMS + n, 0);
        }

        /** Which FINDING an item treated as of a FORM is; 0: none. */
        int wrongWith(int s, int form, int i) {
            if (isLost(s)) {
                return NULL;
            }
            if (forms[s] != form) {
                return CAST;
            }
            return isOutside(i, sizes[s]) ? INDEX : 0;
        }

        boolean hasItems(int s, int i, int n) {
            return n >= 0 && i >= 0 && i <= sizes[s] - n;
        }

        int item(int s, int i) {
            return isOutside(i, sizes[s]) ? 0 : items[s * ITEMS + i];
        }

        void put(int s, int i, int v) {
            if (!isOutside(i, sizes[s])) {
                items[s * ITEMS + i] = forms[s] == 0 ? (byte) v : forms[s] == 1 ? (short) v : v;
            }
        }

        void move(int s, int i, int t, int j, int n) {
            System.arraycopy(items, s * ITEMS + i, items, t * ITEMS + j, n);
        }
    }
}
