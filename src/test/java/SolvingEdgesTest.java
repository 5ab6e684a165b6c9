import java.util.Arrays;
import java.util.function.Consumer;

/** The boundary cases of promises 15 to 20, and of what is told of SOLVING ahead of promise 1. */
public final class SolvingEdgesTest {
    private static final Edges edges = new Edges();
    private static final String FOUR = "!ab!bc!cd!de";
    private static final String FIVE = FOUR + "!ef";
    private static final String[] ORDERS = {"0123", "0132", "0213", "0231", "0312", "0321", "1023", "1032", "1203", "1230", "1302", "1320",
        "2013", "2031", "2103", "2130", "2301", "2310", "3012", "3021", "3102", "3120", "3201", "3210"};
    /** P to T double each time down to U: of P there are 63 TERMS, of Q 31, of R 15, of S 7, of T 3. 11 STEPS; 9 if U is open. */
    private static final String DOUBLES = ",P,Q,R,S,TU ,,QQ,,RR,,SS,,TT,,UU* ";
    private static final String OPEN_DOUBLES = ",P,Q,R,ST ,,QQ,,RR,,SS,,TT,UU ";
    /** With no SIGN ahead of it 587 STEPS, each SIGN is one more. */
    private static final String MANY = ",P,P,P,P,P,P,P,P,Q,Q,ST";

    public static void main(String[] args) {
        byTheirNumbers();
        pileIsEmptyAtFirst();
        goneInto();
        oneUnknownWithTwoTurns();
        twoUnknowns();
        unknownAndAnotherTerm();
        loop();
        noLoop();
        signs();
        pairs();
        binders();
        clash();
        longSolving();
        longAtTheNext();
        bound();
        firstOfAllIsTold();
        solvedNumbers();
        solvedValues();
        valueNumbers();
        valueOfNone();
        valueUpToSixty();
        valueOfDeepPairs();
        freshNumbers();
        freshOfAll();
        needsNumbers();
        needsOfAll();
        wayNumbers();
        wayOrders();
        wayOfEach();
        spareOfNone();
        spareOfEach();
        spareOfLong();
        edges.end("SolvingEdgesTest", 15, 20);
    }

    private static Subject with(String texts) {
        return Check.with(texts.split(" ", -1));
    }

    private static Consumer<Subject> typed(String texts) {
        return Edges.texts(texts.split(" ", -1));
    }

    private static void solved(String texts, int... want) {
        Subject x = with(texts);
        int[] got = {x.solved(0), x.solved(1), x.solved(2), x.solved(3)};
        edges.due("'" + texts + "'", Arrays.toString(got), Arrays.toString(want));
        edges.due("count 5 of '" + texts + "'", x.count(5), want[0]);
        edges.due("count 6 of '" + texts + "'", x.count(6), want[2]);
        if (want[0] != 0) {
            noAnswer(x, texts);
        }
    }

    /** An empty VALUE, no NAMES are told, where there is no answer. */
    private static void noAnswer(Subject x, String texts) {
        for (int unknown = 0; unknown < 6; unknown++) {
            edges.due("value " + unknown + " of '" + texts + "'", Check.value(x, unknown), "");
            edges.due("fresh " + unknown + " of '" + texts + "'", x.fresh(unknown), 0);
            edges.due("needs " + unknown + " of '" + texts + "'", x.needs(unknown), 0);
        }
    }

    private static void values(String texts, String... want) {
        Subject x = with(texts);
        for (int unknown = 0; unknown < want.length; unknown++) {
            edges.due("value " + unknown + " of '" + texts + "'", Check.value(x, unknown), want[unknown]);
        }
    }

    private static void fresh(String texts, int... want) {
        Subject x = with(texts);
        for (int unknown = 0; unknown < want.length; unknown++) {
            edges.due("fresh " + unknown + " of '" + texts + "'", x.fresh(unknown), want[unknown]);
        }
    }

    private static void byTheirNumbers() {
        edges.says("SOLVING", "goes through EQUATIONS by their numbers");
        String[] all = {"a a", "a a", "a a", "a a"};
        for (int first = 0; first < 4; first++) {
            String[] texts = all.clone();
            for (int e = first; e < 4; e++) {
                texts[e] = e == first ? "a b" : "P 0P";
            }
            solved(String.join(" ", texts), 1, first, first + 1, 0);
            texts[first] = "P 0P";
            solved(String.join(" ", texts), 2, first, first + 1, 0);
            solved("  ".repeat(first) + "a b", 1, first, 1, 0);
        }
    }

    private static void pileIsEmptyAtFirst() {
        edges.says("SOLVING", "each is put on a pile (empty at first)");
        solved("", 0, -1, 0, 0);
        solved("a", 0, -1, 0, 0);
        solved(" a", 0, -1, 0, 0);
        solved("g a", 0, -1, 0, 0);
        solved("P aa P a", 0, -1, 1, 1);
        solved("* *", 0, -1, 1, 0);
        solved("* * * * * * * *", 0, -1, 4, 0);
        // What a CLASH left on the pile is gone when the texts are others.
        Subject x = with(",a,bc ,d,bc");
        edges.due("CLASH", x.solved(2), 2);
        Check.retype(x, 1, ",a,bc");
        edges.due("STEPS then", x.solved(2), 5);
    }

    private static void goneInto() {
        edges.says("SOLVING", "SWAPS, and UNKNOWNS that have a VALUE, are gone into, until neither is one");
        solved("!ab!cd!ef!ab!cd!ef!ab!cd!efa b", 0, -1, 1, 0);
        solved("!aaa a", 0, -1, 1, 0);
        solved("P Q P R P S P a", 0, -1, 4, 4);
        values("P Q P R P S P a", "a", "a", "a", "a", "T", "U");
        values("U T T S S R R a", "P", "Q", "a", "a", "a", "a");
        // S is b, so T is c, and so is U.
        solved("U !abT T !bcS S !bdd U c", 0, -1, 4, 3);
        solved("U !abT T !bcS S !bdd U !cda", 1, 3, 4, 3);
        solved("U !abT T !bcS S !bdd U !cdd", 0, -1, 4, 3);
    }

    private static void oneUnknownWithTwoTurns() {
        edges.says("SOLVING", "one UNKNOWN with two TURNS: each NAME that they do not take to one must be FRESH in it");
        for (int u = 0; u < 6; u++) {
            String p = "" + (char) ('P' + u);
            int[] want = new int[6];
            fresh(p + " " + p, want);
            fresh("!ab" + p + " !ba" + p, want);
            want[u] = 3;
            fresh(p + " !ab" + p, want);
            fresh("!ab" + p + " " + p, want);
            want[u] = 48;
            fresh("!ef" + p + " " + p, want);
            want[u] = 63;
            fresh(FIVE + p + " " + p, want);
            want[u] = 14;
            fresh("!ab!bc" + p + " !ab!cd" + p, want);
            solved(FIVE + p + " " + p, 0, -1, 1, 0);
        }
        fresh("!abP P !bcP P", 7);
        fresh("!abP P !bcP P     fP", 39);
        fresh(",PP ,!ab!bcP!efP       dP", 63);
    }

    private static void twoUnknowns() {
        edges.says("SOLVING", "two UNKNOWNS: the one of the greater letter gets a VALUE");
        for (int u = 0; u < 6; u++) {
            for (int v = 0; v < 6; v++) {
                if (u == v) {
                    continue;
                }
                String one = "" + (char) ('P' + u);
                String other = "" + (char) ('P' + v);
                String least = "" + (char) ('P' + Math.min(u, v));
                Subject x = with(one + " " + other);
                edges.due("value of " + one, Check.value(x, u), least);
                edges.due("value of " + other, Check.value(x, v), least);
                edges.due("VALUES", x.solved(3), 1);
                Subject y = with("!ab" + one + " !bc" + other);
                // By the TURN of the least one first, then by that of the other, turned back.
                edges.due("turned " + one, Check.value(y, u), u < v ? least : "!ab!bc" + least);
                edges.due("turned " + other, Check.value(y, v), u < v ? "!ac!bc" + least : least);
            }
        }
    }

    private static void unknownAndAnotherTerm() {
        edges.says("SOLVING", "an UNKNOWN and another TERM: it gets that one as its VALUE, turned back");
        String[] terms = {"a", "*", "0a", ",ab", ".ab"};
        for (int u = 0; u < 6; u++) {
            for (String term : terms) {
                String unknown = "" + (char) ('P' + u);
                edges.due(unknown + " " + term, Check.value(with(unknown + " " + term), u), term);
                edges.due(term + " " + unknown, Check.value(with(term + " " + unknown), u), term);
                solved(unknown + " " + term, 0, -1, 1, 1);
                solved(term + " " + unknown, 0, -1, 1, 1);
            }
        }
        values("!ab!bcP ,a,b,cQ", ",c,a,b!ac!bcQ", "Q");
        values(",a,b,cQ !ab!bcP", ",c,a,b!ac!bcQ", "Q");
        values("!abP !aba", "a");
        values(FIVE + "P ,a,b,c,d,ef", ",f,a,b,c,de");
    }

    private static void loop() {
        edges.says("SOLVING", "if it is itself in that one (with all VALUES put in), there is no answer: LOOP");
        for (char u = 'P'; u <= 'U'; u++) {
            solved(u + " 0" + u, 2, 0, 1, 0);
            solved("0" + u + " " + u, 2, 0, 1, 0);
            solved(u + " ,a" + u, 2, 0, 1, 0);
            solved(u + " ," + u + "a", 2, 0, 1, 0);
            solved(u + " .a!ab" + u, 2, 0, 1, 0);
            solved("!ab" + u + " " + Edges.full('0', 29) + u, 2, 0, 1, 0);
        }
        solved("P 0Q Q 0P", 2, 1, 2, 1);
        solved("P 0Q Q 0R R 0S S 0P", 2, 3, 4, 3);
        solved(",P,Q,R,S,TU ,0Q,0R,0S,0T,0U0P", 2, 0, 11, 5);
        solved(",U,T,S,R,QP ,0T,0S,0R,0Q,0P0U", 2, 0, 11, 5);
        solved("P Q Q 0P", 2, 1, 2, 1);
        solved("P Q P 0Q", 2, 1, 2, 1);
        // It is in one of several VALUES: the first, the last, one of a VALUE.
        solved("P ,QR Q 0S R 0P", 2, 2, 3, 2);
        solved("P ,QR R 0S Q 0P", 2, 2, 3, 2);
        solved("P ,QR Q 0S R 0T S 0P", 2, 3, 4, 3);
        solved("P ,QR Q 0S R 0T T 0P", 2, 3, 4, 3);
    }

    private static void noLoop() {
        edges.says("SOLVING", "no LOOP where it is not in that one");
        solved("P P", 0, -1, 1, 0);
        solved("P !abP", 0, -1, 1, 0);
        solved("P Q Q P", 0, -1, 2, 1);
        solved(",PQ ,QP", 0, -1, 3, 1);
        solved("P 0Q Q 0R R 0S S 0T", 0, -1, 4, 4);
        solved(",P,Q,R,S,TU ,0Q,0R,0S,0T,0U0a", 0, -1, 11, 6);
        solved("P 0Q P 0Q", 0, -1, 3, 1);
        solved("0P 0P", 0, -1, 2, 0);
    }

    private static void signs() {
        edges.says("SOLVING", "two of one SIGN: what they are of is put on the pile");
        for (char one = '0'; one <= '4'; one++) {
            for (char other = '0'; other <= '4'; other++) {
                if (one == other) {
                    solved(one + "a " + other + "a", 0, -1, 2, 0);
                    solved(one + "P " + other + "a", 0, -1, 2, 1);
                } else {
                    solved(one + "a " + other + "a", 1, 0, 1, 0);
                    solved(one + "P " + other + "P", 1, 0, 1, 0);
                }
            }
        }
        solved(Edges.full('4', 29) + "P " + Edges.full('4', 29) + "a", 0, -1, 30, 1);
        solved(Edges.full('4', 29) + "b " + Edges.full('4', 29) + "a", 1, 0, 30, 0);
    }

    private static void pairs() {
        edges.says("SOLVING", "two PAIRS: their second TERMS, then their first ones are (what was put there last is taken off)");
        solved(",aa ,aa", 0, -1, 3, 0);
        solved(",ab ,bb", 1, 0, 2, 0);
        solved(",ba ,bb", 1, 0, 3, 0);
        solved(",aP ,b0P", 1, 0, 2, 0);
        solved(",Pa ,0Pb", 2, 0, 2, 0);
        solved(",,aaa ,,aab", 1, 0, 5, 0);
        solved(",P,Pb ,a,cb", 1, 0, 4, 1);
        String most = Edges.full(',', 14) + Edges.full('a', 15);
        solved(most + " " + most, 0, -1, 29, 0);
        String right = ",a".repeat(14) + "a";
        solved(right + " " + right, 0, -1, 29, 0);
    }

    private static void binders() {
        edges.says("SOLVING", "BINDERS of one NAME; of n (the LEFT) and of m: n must be FRESH in the TERM of m");
        solved(".aa .aa", 0, -1, 2, 0);
        solved(".aa .bb", 0, -1, 2, 0);
        solved(".ab .ba", 3, -1, 2, 0);
        solved(".aa .ba", 1, 0, 2, 0);
        solved(".ab .bb", 1, 0, 2, 0);
        fresh(".aP .aQ", 0, 0);
        fresh(".aP .bQ", 2, 0);
        fresh(".bQ .aP", 2, 0);
        fresh(".aQ .bP", 1, 0);
        values(".aP .bQ", "P", "!abP");
        values(".bQ .aP", "P", "!abP");
        for (char n = 'a'; n <= 'f'; n++) {
            for (char m = 'a'; m <= 'f'; m++) {
                solved("." + n + n + " ." + m + m, 0, -1, 2, 0);
                fresh("." + n + "* ." + m + "P", 0);
                fresh("." + n + "!" + n + m + "P ." + m + "P", n == m ? 0 : 1 << n - 'a');
            }
        }
    }

    private static void clash() {
        edges.says("SOLVING", "two NAMES that are one, NOTHING and NOTHING: nothing more. Else there is no answer: CLASH");
        String[] all = {"a", "b", "c", "d", "e", "f", "*", "0a", "4a", ",aa", ".aa"};
        int[] steps = {1, 1, 1, 1, 1, 1, 1, 2, 2, 3, 2};
        for (int i = 0; i < all.length; i++) {
            for (int j = 0; j < all.length; j++) {
                String texts = all[i] + " " + all[j];
                if (i == j) {
                    solved(texts, 0, -1, steps[i], 0);
                } else {
                    solved(texts, 1, 0, 1, 0);
                    solved("P " + all[i] + " P " + all[j], 1, 1, 2, 1);
                }
            }
        }
        solved(".a* .b0*", 1, 0, 2, 0);
    }

    private static void longSolving() {
        edges.says("SOLVING", "if 600 STEPS are taken and there is anything on the pile, there is no answer: LONG");
        for (int signs = 0; signs < 7; signs++) {
            String many = Edges.full('0', signs) + MANY;
            int steps = 11 + 587 + signs;
            if (steps <= 600) {
                solved(DOUBLES + many + " " + many, 0, -1, steps, 6);
            } else {
                solved(DOUBLES + many + " " + many, 4, 1, 600, 6);
            }
        }
        // The 600th STEP itself may still tell a CLASH or a LOOP.
        String ends = MANY.replace("ST", ",ST");
        solved(DOUBLES + ends + "a " + ends + "a", 0, -1, 600, 6);
        solved(DOUBLES + ends + "a " + ends + "b", 1, 1, 600, 6);
        solved(DOUBLES + "0" + ends + "a 0" + ends + "b", 4, 1, 600, 6);
        String open = "00" + MANY.replace("ST", ",ST");
        solved(OPEN_DOUBLES + open + "U " + open + "0U", 2, 1, 600, 5);
        solved(OPEN_DOUBLES + open + "U " + open + "U", 0, -1, 600, 5);
        solved(OPEN_DOUBLES + "0" + open + "U 0" + open + "0U", 4, 1, 600, 5);
    }

    private static void longAtTheNext() {
        edges.says("SOLVING", "LONG: 600 STEPS of all EQUATIONS");
        String most = DOUBLES + "00" + MANY + " 00" + MANY;
        String less = DOUBLES + "0" + MANY + " 0" + MANY;
        solved(most, 0, -1, 600, 6);
        solved(most + " a a", 4, 2, 600, 6);
        solved(most + "   a a", 4, 3, 600, 6);
        solved(most + " a g", 0, -1, 600, 6);
        solved(less + " a a", 0, -1, 600, 6);
        solved(less + " a b", 1, 2, 600, 6);
        solved(less + " 0a 0a", 4, 2, 600, 6);
        solved(less + " a a a a", 4, 3, 600, 6);
    }

    private static void bound() {
        edges.says("SOLVING", "behind all EQUATIONS; where a NAME must be FRESH in itself, there is no answer: BOUND");
        for (char name = 'a'; name <= 'f'; name++) {
            char next = name == 'f' ? 'a' : (char) (name + 1);
            solved("P " + name + "       " + name + "P", 3, -1, 1, 1);
            solved("P " + name + "       " + next + "P", 0, -1, 1, 1);
            solved("P !" + name + next + name + "       " + next + "P", 3, -1, 1, 1);
            solved("P !" + name + next + name + "       " + name + "P", 0, -1, 1, 1);
            solved("P ." + name + name + "       " + name + "P", 0, -1, 1, 1);
            solved("P ." + next + name + "       " + name + "P", 3, -1, 1, 1);
        }
        solved("P *       aPbPcPdPePfP", 0, -1, 1, 1);
        solved("P ,ba       aP", 3, -1, 1, 1);
        solved("P ,ab       aP", 3, -1, 1, 1);
        solved("P 0,b4c       aP", 0, -1, 1, 1);
        solved(",PQ ,QR R a     aP", 3, -1, 4, 3);
        solved("P Q   R a Q 0R aP", 3, -1, 3, 3);
        solved("P !abP P a", 3, -1, 2, 1);
        solved("P !abP P c", 0, -1, 2, 1);
        solved("P a       aPb", 0, -1, 1, 1);
        // It is looked at behind all: what is bound by the first EQUATION is found by the VALUE of the last.
        solved(".aP .bQ       ", 0, -1, 2, 1);
        solved(".aP .bQ     Q a", 3, -1, 3, 2);
        solved(".aP .bQ     Q b", 0, -1, 3, 2);
        solved(".aP .bQ     Q c", 0, -1, 3, 2);
    }

    private static void firstOfAllIsTold() {
        edges.says("SOLVING", "WHY: 0 there is an answer, 1 CLASH, 2 LOOP, 3 BOUND, 4 LONG");
        solved("P a a b     aP", 1, 1, 2, 1);
        solved("P a Q 0Q     aP", 2, 1, 2, 1);
        solved("P a     a b aP", 1, 3, 2, 1);
        solved(",Pa ,ab       aP", 1, 0, 3, 1);
        String many = "000" + MANY;
        solved(DOUBLES + many + " " + many + " .ab .ba", 4, 1, 600, 6);
        solved(".ab .ba " + DOUBLES + many + " " + many, 4, 2, 600, 6);
    }

    private static void solvedNumbers() {
        edges.says(15, "what = 0, 1, 2, 3; BAD");
        for (int bad : Edges.outside(4)) {
            edges.refused(typed("P a"), "what " + bad, x -> x.solved(bad), -2);
            edges.refused(x -> { }, "what " + bad + ", nothing typed", x -> x.solved(bad), -2);
        }
        int[] want = {1, 1, 2, 1};
        for (int what = 0; what < 4; what++) {
            int asked = what;
            edges.asked(typed("P a P b"), "what " + what, x -> x.solved(asked), want[what]);
        }
    }

    private static void solvedValues() {
        edges.says(15, "how many VALUES");
        String left = "";
        String right = "";
        for (int many = 0; many < 6; many++) {
            left = many == 0 ? "P" : "," + (char) ('P' + many) + left;
            right = many == 0 ? "a" : ",a" + right;
            edges.due(many + 1 + " VALUES", with(left + " " + right).solved(3), many + 1);
        }
        edges.due("no VALUES", new Subject().solved(3), 0);
        edges.due("one for two EQUATIONS", with("P a P a").solved(3), 1);
    }

    private static void valueNumbers() {
        edges.says(16, "an UNKNOWN, i = NONE, 0 to 59; BAD");
        for (int bad : Edges.outside(6)) {
            edges.refused(typed("P ,aQ"), "UNKNOWN " + bad, x -> x.value(bad, 0), -2);
            edges.due("UNKNOWN " + bad + " and i", with("P a").value(bad, 60), -2);
        }
        for (int bad : new int[] {-2, 60, -3, 61, Edges.LEAST, Edges.LEAST + 1, Edges.MOST - 1, Edges.MOST}) {
            edges.refused(typed("P ,aQ"), "i = " + bad, x -> x.value(0, bad), -2);
            edges.due("i = " + bad + ", no answer", with("a b").value(5, bad), -2);
        }
        edges.asked(typed("P ,aQ"), "i = -1", x -> x.value(0, -1), 3);
        edges.asked(typed("P ,aQ"), "i = 0", x -> x.value(0, 0), ',');
        edges.asked(typed("P ,aQ"), "i = 2", x -> x.value(0, 2), 'Q');
        edges.asked(typed("P ,aQ"), "i = 3", x -> x.value(0, 3), -1);
        edges.asked(typed("P ,aQ"), "i = 59", x -> x.value(0, 59), -1);
        edges.asked(typed("P ,aQ"), "UNKNOWN 5", x -> x.value(5, 0), 'U');
    }

    private static void valueOfNone() {
        edges.says(16, "of one without a VALUE itself; 0: there is no answer");
        values("", "P", "Q", "R", "S", "T", "U");
        values("P !abP", "P", "Q", "R", "S", "T", "U");
        values("U a", "P", "Q", "R", "S", "T", "a");
        for (String none : new String[] {"a b", "P 0P", "P a       aP", "P a P b"}) {
            Subject x = with(none);
            for (int unknown = 0; unknown < 6; unknown++) {
                edges.due("bytes of " + unknown + " of " + none, x.value(unknown, -1), 0);
                edges.due("the first of " + unknown + " of " + none, x.value(unknown, 0), -1);
            }
        }
    }

    private static void valueUpToSixty() {
        edges.says(16, "all VALUES put in, as it is SHOWN; 60 bytes at most are told");
        for (int signs = 8; signs < 11; signs++) {
            String all = Edges.full('0', signs) + ",," + (FIVE + "Q").repeat(3);
            Subject x = with("P " + FIVE + Edges.full('0', signs) + ",,QQQ");
            edges.due("bytes", x.value(0, -1), all.length());
            edges.due("all", Check.value(x, 0), all);
        }
        for (int signs = 6; signs < 10; signs++) {
            String all = Edges.full('0', signs) + ",,," + (FOUR + "Q").repeat(4);
            Subject x = with("P " + FOUR + Edges.full('0', signs) + ",,,QQQQ");
            edges.due("bytes", x.value(0, -1), 60);
            edges.due("all", Check.value(x, 0), all.substring(0, 60));
        }
        String eight = ",,,VV,VV,,VV,VV";
        Subject x = with("P " + eight.replace('V', 'Q') + " Q " + eight.replace('V', 'R') + " R " + eight.replace('V', 'S')
            + " S " + eight.replace('V', 'T'));
        String s = eight.replace('V', 'T');
        String r = eight.replace("V", s);
        String q = eight.replace("V", r);
        edges.due("S", Check.value(x, 3), s);
        edges.due("R", Check.value(x, 2), r.substring(0, 60));
        edges.due("Q", Check.value(x, 1), q.substring(0, 60));
        edges.due("P", Check.value(x, 0), eight.replace("V", q).substring(0, 60));
        edges.due("P needs", x.needs(0), 16);
    }

    private static String nested(int pairs, char first) {
        return Edges.full(',', pairs) + first + Edges.full('a', pairs);
    }

    /** P starts with Q, Q with R, R with S, S with T, each 13 PAIRS down: 52 PAIRS stand open ahead of those of T. */
    private static void valueOfDeepPairs() {
        edges.says(16, "all VALUES put in; 60 bytes at most are told, of PAIRS inside PAIRS");
        for (int pairs = 0; pairs <= 14; pairs++) {
            Subject x = with(",P" + nested(13, 'R') + " ," + nested(13, 'Q') + "Q ,R" + nested(13, 'T') + " ," + nested(13, 'S') + "S T "
                + nested(pairs, 'b'));
            edges.due("VALUES with " + pairs, x.solved(3), 5);
            edges.due("T with " + pairs, Check.value(x, 4), nested(pairs, 'b'));
            edges.due("P with " + pairs, Check.value(x, 0), nested(52 + pairs, 'b').substring(0, 60));
        }
    }

    private static void freshNumbers() {
        edges.says(17, "an UNKNOWN; BAD");
        for (int bad : Edges.outside(6)) {
            edges.refused(typed("P !abP"), "UNKNOWN " + bad, x -> x.fresh(bad), -2);
            edges.refused(typed("a b"), "UNKNOWN " + bad + ", no answer", x -> x.fresh(bad), -2);
        }
        edges.asked(typed("P !abP"), "UNKNOWN 0", x -> x.fresh(0), 3);
        edges.asked(typed("        fU"), "UNKNOWN 5", x -> x.fresh(5), 32);
    }

    private static void freshOfAll() {
        edges.says(17, "NAMES that must be FRESH in an UNKNOWN, as bits (0: it has a VALUE)");
        fresh("", 0, 0, 0, 0, 0, 0);
        for (int n = 0; n < 6; n++) {
            for (int u = 0; u < 6; u++) {
                int[] want = new int[6];
                want[u] = 1 << n;
                fresh("        " + (char) ('a' + n) + (char) ('P' + u), want);
            }
        }
        fresh("        aPbPcPdPePfPaUbUcUdUeUfU", 63, 0, 0, 0, 0, 63);
        fresh("        " + "aP".repeat(12), 1);
        fresh("        " + "aP".repeat(11) + "b", 0);
        fresh("P *       aPbPcPdPePfPaUbUcUdUeUfU", 0, 0, 0, 0, 0, 63);
        fresh("P Q       aPbPcPdQeQfQ", 63, 0);
        fresh("P 0Q       aPbPcPdQeQfQ", 0, 63);
        fresh("P " + FIVE + "Q       aPbQ", 5, 0);
        fresh("P a Q 0R R 0S   aQ", 0, 0, 0, 1);
        // From VALUE to VALUE, each in an EQUATION behind or ahead of the last one.
        fresh("T 0P P 0Q Q 0R R 0!abS aT", 0, 0, 0, 2, 0, 0);
        fresh("R 0!abS Q 0R P 0Q T 0P aT", 0, 0, 0, 2, 0, 0);
        fresh(",P,Q,R,ST ,0Q,0R,0S,0T0U       aP", 0, 0, 0, 0, 0, 1);
        fresh(",T,S,R,QP ,0U,0T,0S,0R0Q       aP", 0, 0, 0, 0, 0, 1);
        fresh("P ,Q,R,S,TU       aPfP", 0, 33, 33, 33, 33, 33);
    }

    private static void needsNumbers() {
        edges.says(18, "an UNKNOWN; BAD");
        for (int bad : Edges.outside(6)) {
            edges.refused(typed("P ,QR"), "UNKNOWN " + bad, x -> x.needs(bad), -2);
            edges.refused(typed("a b"), "UNKNOWN " + bad + ", no answer", x -> x.needs(bad), -2);
        }
        edges.asked(typed("P ,QR"), "UNKNOWN 0", x -> x.needs(0), 6);
        edges.asked(typed("P ,QR"), "UNKNOWN 5", x -> x.needs(5), 32);
    }

    private static void needs(String texts, int... want) {
        Subject x = with(texts);
        for (int unknown = 0; unknown < want.length; unknown++) {
            edges.due("needs " + unknown + " of '" + texts + "'", x.needs(unknown), want[unknown]);
        }
    }

    private static void needsOfAll() {
        edges.says(18, "UNKNOWNS without a VALUE that are in what an UNKNOWN is, as bits");
        needs("", 1, 2, 4, 8, 16, 32);
        needs("P a", 0, 2, 4, 8, 16, 32);
        needs("P ,Q,R,S,TU", 62, 2, 4, 8, 16, 32);
        needs("U ,Q,R,S,TP", 1, 2, 4, 8, 16, 31);
        needs("P 0Q Q 0R R 0S S ,TU", 48, 48, 48, 48, 16, 32);
        needs("P ,QR Q 0S", 12, 8, 4, 8, 16, 32);
        needs("P ,QR R 0S", 10, 2, 8, 8, 16, 32);
        needs("P ,QR R ,ST Q U", 26, 2, 24, 8, 16, 2);
        needs("P 0Q Q 0R R 0S S 0*", 0, 0, 0, 0, 16, 32);
        needs(",P,Q,R,S,TU ,0Q,0R,0S,0T,0U*", 0, 0, 0, 0, 0, 0);
        needs("P Q", 1, 1);
        needs("a b", 0, 0, 0, 0, 0, 0);
        needs("P 0P", 0, 0, 0, 0, 0, 0);
        needs("Q 0P Q 0a     aP", 0, 0, 0, 0, 0, 0);
    }

    private static void wayNumbers() {
        edges.says(19, "the k-th order (0 to 23), what = 0, 1, 2, 3; BAD");
        for (int bad : Edges.outside(24)) {
            edges.refused(typed("P a P b"), "order " + bad, x -> x.way(bad, 0), -2);
            edges.due("order " + bad + " and what", with("P a").way(bad, 4), -2);
        }
        for (int bad : Edges.outside(4)) {
            edges.refused(typed("P a P b"), "what " + bad, x -> x.way(0, bad), -2);
            edges.due("what " + bad + " of the last", with("P a").way(23, bad), -2);
        }
        edges.asked(typed("P a P b"), "order 0", x -> x.way(0, 1), 1);
        edges.asked(typed("P a P b"), "order 23", x -> x.way(23, 1), 0);
        edges.asked(typed("P a P b"), "order 23, what 3", x -> x.way(23, 3), 1);
        edges.asked(x -> { }, "nothing typed", x -> x.way(23, 1), -1);
    }

    /** Two EQUATIONS have VALUES that CLASH: the later one of an order tells, for each two, which of them came first. */
    private static void wayOrders() {
        edges.says(19, "orders as words of 0, 1, 2, 3 in a dictionary");
        for (int one = 0; one < 4; one++) {
            for (int other = one + 1; other < 4; other++) {
                String[] texts = {"", "", "", "", "", "", "", ""};
                texts[2 * one] = "P";
                texts[2 * one + 1] = "a";
                texts[2 * other] = "P";
                texts[2 * other + 1] = "b";
                Subject x = Check.with(texts);
                for (int k = 0; k < 24; k++) {
                    boolean isFirst = ORDERS[k].indexOf('0' + one) < ORDERS[k].indexOf('0' + other);
                    edges.due("order " + k + " of " + one + " and " + other, x.way(k, 1), isFirst ? other : one);
                    edges.due("WHY", x.way(k, 0), 1);
                    edges.due("STEPS", x.way(k, 2), 2);
                    edges.due("VALUES", x.way(k, 3), 1);
                }
            }
        }
    }

    private static void wayOfEach() {
        edges.says(19, "WHY, at which EQUATION (NONE), STEPS, VALUES");
        String[] all = {"", "P a", "P a P b", "P 0P a b", "P a Q b     aP", "P Q Q R R S S T"};
        for (String texts : all) {
            Subject x = with(texts);
            for (int what = 0; what < 4; what++) {
                edges.due("order 0 is SOLVING '" + texts + "'", x.way(0, what), x.solved(what));
            }
        }
        Subject x = with("P 0P a b");
        edges.due("LOOP first", x.way(0, 0), 2);
        edges.due("CLASH first", x.way(6, 0), 1);
        edges.due("CLASH first at", x.way(6, 1), 1);
        Subject bound = with("P a       aP");
        edges.due("BOUND in each order", bound.way(17, 0), 3);
        edges.due("BOUND at none", bound.way(17, 1), -1);
        edges.due("VALUES of BOUND", bound.way(17, 3), 1);
        String many = "000" + MANY;
        Subject slow = with(DOUBLES + many + " " + many);
        edges.due("LONG", slow.way(0, 0) + " " + slow.way(0, 1) + " " + slow.way(0, 2) + " " + slow.way(0, 3), "4 1 600 6");
        edges.due("not LONG the other way", slow.way(6, 0) + " " + slow.way(6, 1), "0 -1");
        edges.due("STEPS the other way", slow.way(6, 2), 3 + 23 + 11);
    }

    private static void spare(String texts, int want) {
        edges.due("'" + texts + "'", with(texts).spare(), want);
    }

    private static void spareOfNone() {
        edges.says(20, "where there is none with it; NONE");
        spare("", -1);
        spare("P a", -1);
        spare("P a Q b R c S d", -1);
        spare("a b a b", -1);
        spare("a b P 0P", -1);
        spare("P a       aPbQ", 0);
        spare("P a Q b     aPbQ", -1);
        spare("P a P b P c", -1);
        spare("a b   a b", -1);
        edges.asked(typed("P a"), "an answer", x -> x.spare(), -1);
        edges.asked(typed("P a P b"), "no answer", x -> x.spare(), 0);
        // Without an EQUATION that is not there, there is none either.
        spare("g a a b a b", -1);
    }

    private static void spareOfEach() {
        edges.says(20, "the least EQUATION without which there is an answer");
        for (int equation = 0; equation < 4; equation++) {
            spare("  ".repeat(equation) + "a b", equation);
            spare("  ".repeat(equation) + "P 0P", equation);
            spare("  ".repeat(equation) + ".ab .ba", equation);
            String[] texts = {"a a", "b b", "Q c", "R d"};
            texts[equation] = "a b";
            spare(String.join(" ", texts), equation);
        }
        for (int one = 0; one < 4; one++) {
            for (int other = one + 1; other < 4; other++) {
                String[] texts = {"a a", "a a", "a a", "a a"};
                texts[one] = "P a";
                texts[other] = "P b";
                spare(String.join(" ", texts), one);
                texts[other] = "Q a";
                spare(String.join(" ", texts) + " aQ", other);
            }
        }
        spare("P a P b P b", 0);
        spare("P b P b P a", 2);
        spare("P b P a P b P b", 1);
    }

    private static void spareOfLong() {
        edges.says(20, "LONG, too, is no answer");
        String many = "000" + MANY;
        spare(DOUBLES + many + " " + many, 0);
        spare(DOUBLES + many + " " + many + " a b", -1);
        spare("a b " + DOUBLES + many + " " + many, -1);
        spare("a b   " + DOUBLES + many + " " + many, -1);
        // One STEP too many is that of EQUATION 0; two too many are not, but without EQUATION 1 no VALUE is gone into.
        spare("a a " + DOUBLES + "00" + MANY + " 00" + MANY, 0);
        spare("a a " + DOUBLES + "000" + MANY + " 000" + MANY, 1);
    }
}
