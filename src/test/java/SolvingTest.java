/** Promises 15 to 20: solved, value, fresh, needs, way, spare. */
public final class SolvingTest {
    private static final Check check = new Check();

    public static void main(String[] args) {
        solved();
        longSolving();
        values();
        fresh();
        needs();
        ways();
        spare();
        wrongNumbers();
        check.end("SolvingTest");
    }

    private static void solved(String texts, int why, int where, int steps, int values) {
        Subject x = Check.with(texts.split(" ", -1));
        int[] want = {why, where, steps, values};
        for (int what = 0; what < 4; what++) {
            check.due("solved " + what + " of '" + texts + "'", x.solved(what), want[what]);
            check.due("way 0 " + what + " of '" + texts + "'", x.way(0, what), want[what]);
        }
        check.due("WHY of '" + texts + "'", x.count(5), why);
        check.due("STEPS of '" + texts + "'", x.count(6), steps);
    }

    private static void solved() {
        solved("", 0, -1, 0, 0);
        solved("a a", 0, -1, 1, 0);
        solved("a b", 1, 0, 1, 0);
        solved("* *", 0, -1, 1, 0);
        solved("* a", 1, 0, 1, 0);
        solved("0a 1a", 1, 0, 1, 0);
        solved("0a 0a", 0, -1, 2, 0);
        solved("0a ,aa", 1, 0, 1, 0);
        solved(",ab ,ab", 0, -1, 3, 0);
        solved(",ab ,ac", 1, 0, 3, 0);
        solved(",ab ,cb", 1, 0, 2, 0);
        solved("P a", 0, -1, 1, 1);
        solved("a P", 0, -1, 1, 1);
        solved("P Q", 0, -1, 1, 1);
        solved("P P", 0, -1, 1, 0);
        solved("P !abP", 0, -1, 1, 0);
        solved("P 0P", 2, 0, 1, 0);
        solved("0P P", 2, 0, 1, 0);
        solved(",PQ ,0Q0P", 2, 0, 3, 1);
        solved(",PP ,ab", 1, 0, 3, 1);
        solved("  a b", 1, 1, 1, 0);
        solved("P a g a P b", 1, 2, 2, 1);
        solved("P a a a P P P b", 1, 3, 4, 1);
        solved(".aa .bb", 0, -1, 2, 0);
        // The NAME of the LEFT is in the TERM of the RIGHT, yet both become one: only BOUND tells.
        solved(".ab .ba", 3, -1, 2, 0);
        solved(".a,aP .b,ba", 3, -1, 4, 1);
        solved(".aP .ba", 3, -1, 2, 1);
        solved("P a       aP", 3, -1, 1, 1);
        solved("P b       aP", 0, -1, 1, 1);
        solved("P .aa       aP", 0, -1, 1, 1);
        solved("P .ba       aP", 3, -1, 1, 1);
        solved("P !abb       aP", 3, -1, 1, 1);
        solved("P !aba       aP", 0, -1, 1, 1);
        solved("!abP a       bP", 3, -1, 1, 1);
        solved("!abP a       aP", 0, -1, 1, 1);
        solved("P 0Q Q a     aP", 3, -1, 2, 2);
        solved("P a       aPb", 0, -1, 1, 1);
        // A PAIR puts its first TERMS on top: the CLASH of the first is met before the LOOP of the second.
        solved(",aP ,b0P", 1, 0, 2, 0);
        solved(",Pa ,0Pb", 2, 0, 2, 0);
    }

    private static void longSolving() {
        String left = ",P,Q,R,S,TU ,,QQ,,RR,,SS,,TT,,UU* ";
        String most = ",P,P,P,P,P,P,P,P,Q,Q,S,TU";
        String more = ",U,P,P,P,P,P,P,P,P,Q,Q,S,TU";
        solved(left + most + " " + most, 0, -1, 600, 6);
        solved(left + most + " " + most + " a a", 4, 2, 600, 6);
        solved(left + more + " " + more, 4, 1, 600, 6);
        // The 600th STEP may still tell a CLASH.
        solved(left + ",P,P,P,P,P,P,P,P,Q,Q,S,Ta ,P,P,P,P,P,P,P,P,Q,Q,S,Tb", 1, 1, 600, 6);
        Subject x = Check.with((left + more + " " + more).split(" "));
        check.due("value of LONG", x.value(0, -1), 0);
        check.due("needs of LONG", x.needs(0), 0);
        check.due("spare of LONG", x.spare(), 0);
        check.due("way of LONG", x.way(6, 0), 0);
    }

    private static void values(String texts, String... want) {
        Subject x = Check.with(texts.split(" ", -1));
        for (int unknown = 0; unknown < want.length; unknown++) {
            check.due("value " + unknown + " of '" + texts + "'", Check.value(x, unknown), want[unknown]);
        }
    }

    private static void values() {
        values("", "P", "Q", "R", "S", "T", "U");
        values("P a", "a", "Q");
        values("P Q", "P", "P");
        values("Q P", "P", "P");
        values("P !abQ", "P", "!abP");
        values("!abQ P", "P", "!abP");
        values("!abP !bcQ", "P", "!ac!bcP");
        values("!ab!bcP ,aQ", ",c!ac!bcQ", "Q");
        values("!abP .a,aQ", ".b,b!abQ", "Q");
        values("P ,QR Q 0R R .aa", ",0.aa.aa", "0.aa", ".aa");
        values("P !abQ Q ,aR", ",b!abR", ",aR", "R");
        values(".aP !ab!bc.aQ", "P", "!bcP");
        values("a b", "", "", "", "", "", "");
        values("P a       aP", "", "");
        values("P 0P", "");
        values("P a P b", "");
        values(",P,Q,R,S,TU ,,QQ,,RR,,SS,,TT,,UU*", ",,,,,**,**,,**,**,,,**,**,,**,**,,,,**,**,,**,**,,,**,**,,**,**".substring(0, 60),
            ",,,,**,**,,**,**,,,**,**,,**,**", ",,,**,**,,**,**", ",,**,**", ",**", "*");
        Subject x = Check.with("P", "a");
        check.due("value ahead", Check.value(x, 0), "a");
        Check.type(x, 8, "aP");
        check.due("value behind", Check.value(x, 0), "");
        x.wipe(8);
        Check.retype(x, 1, "b");
        check.due("value anew", Check.value(x, 0), "b");
        check.due("value of another", Check.value(x, 5), "U");
        Check.retype(x, 0, "a");
        check.due("CLASH at 0", x.solved(1), 0);
        x.wipe(0);
        check.due("no CLASH any more", x.solved(1), -1);
    }

    private static void fresh(String texts, int... want) {
        Subject x = Check.with(texts.split(" ", -1));
        for (int unknown = 0; unknown < want.length; unknown++) {
            check.due("fresh " + unknown + " of '" + texts + "'", x.fresh(unknown), want[unknown]);
        }
    }

    private static void fresh() {
        fresh("", 0, 0, 0, 0, 0, 0);
        fresh("        aPfUbP", 3, 0, 0, 0, 0, 32);
        fresh("P !abP", 3);
        fresh("!ab!bcP !ab!cdP", 14);
        fresh(".aP .bQ", 2, 0);
        fresh(".aP .b!abP", 2);
        fresh(".aP .bP", 3);
        fresh("!cd.aP !cd.bQ", 2, 0);
        fresh("P ,QR       aPbQ", 0, 3, 1);
        fresh("P !abQ       aQ", 2, 0);
        fresh("P !abQ       aP", 1, 0);
        fresh("Q 0!abP       aQ", 2, 0);
        fresh("Q .a!abP       aQ", 0, 0);
        fresh("Q .a!abP       bQ", 1, 0);
        fresh("P Q       aPbQ", 3, 0);
        fresh("P !abP a b", 0);
        fresh("P a       aP", 0);
        fresh("P 0a Q 0R     aQbRcPdQ", 0, 0, 11);
        fresh("P !abP P ,QR", 0, 3, 3);
        fresh("!abP P !bcP P", 7);
        fresh(".aP !ab!bc.aQ", 2, 0);
    }

    private static void needs(String texts, int... want) {
        Subject x = Check.with(texts.split(" ", -1));
        for (int unknown = 0; unknown < want.length; unknown++) {
            check.due("needs " + unknown + " of '" + texts + "'", x.needs(unknown), want[unknown]);
        }
    }

    private static void needs() {
        needs("", 1, 2, 4, 8, 16, 32);
        needs("P a", 0, 2);
        needs("P ,QR Q 0S", 12, 8, 4, 8, 16);
        needs("U 0T T 0S S 0R R ,QP", 1, 2, 3, 3, 3, 3);
        needs("U !abP", 1, 2, 4, 8, 16, 1);
        needs("a b", 0, 0, 0, 0, 0, 0);
        needs("P a       aP", 0, 0, 0, 0, 0, 0);
    }

    private static void ways() {
        Subject x = Check.with("P", "a", "P", "b", "P", "c", "P", "d");
        String[] orders = {"0123", "0132", "0213", "0231", "0312", "0321", "1023", "1032", "1203", "1230", "1302", "1320",
            "2013", "2031", "2103", "2130", "2301", "2310", "3012", "3021", "3102", "3120", "3201", "3210"};
        for (int k = 0; k < 24; k++) {
            check.due("way " + k, x.way(k, 0), 1);
            check.due("way " + k + " at", x.way(k, 1), orders[k].charAt(1) - '0');
            check.due("way " + k + " steps", x.way(k, 2), 2);
            check.due("way " + k + " values", x.way(k, 3), 1);
        }
        // CLASH at 0, LOOP at 1, two VALUES at 2 and a long way at 3: each order tells where it came first.
        Subject y = Check.with("a", "b", "P", "0P", ",QR", ",ab", "00a", "00a");
        int[] steps = {0, 0, 3, 3};
        for (int k = 0; k < 24; k++) {
            int sum = 0;
            int values = 0;
            int place = 0;
            while (orders[k].charAt(place) > '1') {
                sum += steps[orders[k].charAt(place) - '0'];
                values += orders[k].charAt(place) == '2' ? 2 : 0;
                place++;
            }
            int where = orders[k].charAt(place) - '0';
            check.due("ways " + k, y.way(k, 0), where == 0 ? 1 : 2);
            check.due("ways " + k + " at", y.way(k, 1), where);
            check.due("ways " + k + " steps", y.way(k, 2), sum + 1);
            check.due("ways " + k + " values", y.way(k, 3), values);
        }
        y.wipe(0);
        y.wipe(2);
        check.due("ways after a change", y.way(23, 0), 0);
        check.due("ways after a change at", y.way(23, 1), -1);
        Check.type(y, 8, "aQ");
        check.due("ways with FRESH", y.way(23, 0), 3);
        check.due("ways with FRESH at", y.way(23, 1), -1);
        check.due("solved is as it was", y.solved(2), 6);
    }

    private static void spare(String texts, int want) {
        check.due("spare of '" + texts + "'", Check.with(texts.split(" ", -1)).spare(), want);
    }

    private static void spare() {
        spare("", -1);
        spare("P a", -1);
        spare("a b", 0);
        spare("a b a b", -1);
        spare("  a b", 1);
        spare("P a P b", 0);
        spare("a a P a P b", 1);
        spare("Q a P a R a P b", 1);
        spare("P 0P", 0);
        spare("P a Q b     aP", 0);
        spare("Q b P a     aP", 1);
        spare("P a Q b     aPbQ", -1);
        spare("a a a a a a a b", 3);
        Subject x = Check.with("P", "a", "Q", "R", "P", "b");
        check.due("spare", x.spare(), 0);
        check.due("solved after spare", x.solved(0), 1);
        check.due("where after spare", x.solved(1), 2);
        x.wipe(4);
        check.due("spare of an answer", x.spare(), -1);
        check.due("value after spare", Check.value(x, 2), "Q");
    }

    private static void wrongNumbers() {
        Subject x = Check.with("P", "a");
        for (int bad : new int[] {-1, 4, Integer.MIN_VALUE, Integer.MAX_VALUE}) {
            check.due("solved " + bad, x.solved(bad), -2);
            check.due("way what " + bad, x.way(0, bad), -2);
        }
        for (int bad : new int[] {-1, 6, Integer.MIN_VALUE, Integer.MAX_VALUE}) {
            check.due("value of " + bad, x.value(bad, 0), -2);
            check.due("fresh of " + bad, x.fresh(bad), -2);
            check.due("needs of " + bad, x.needs(bad), -2);
        }
        for (int bad : new int[] {-2, 60, Integer.MIN_VALUE, Integer.MAX_VALUE}) {
            check.due("value place " + bad, x.value(0, bad), -2);
        }
        for (int bad : new int[] {-1, 24, Integer.MIN_VALUE, Integer.MAX_VALUE}) {
            check.due("way " + bad, x.way(bad, 0), -2);
        }
        check.due("value 59", x.value(0, 59), -1);
    }
}
