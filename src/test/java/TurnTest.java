/** Promises 7 to 10: turn, power, rounds, shows. */
public final class TurnTest {
    private static final Check check = new Check();

    public static void main(String[] args) {
        turn();
        power();
        rounds();
        shows();
        showsAnew();
        wrongNumbers();
        check.end("TurnTest");
    }

    private static Subject turning(String swaps) {
        Subject x = new Subject();
        Check.type(x, 9, swaps);
        return x;
    }

    private static String images(Subject x, int what) {
        StringBuilder out = new StringBuilder();
        for (int name = 0; name < 6; name++) {
            out.append((char) ('a' + x.turn(name, what)));
        }
        return out.toString();
    }

    private static void turn() {
        String[][] rows = {
            {"", "abcdef", "abcdef"},
            {"ab", "bacdef", "bacdef"},
            {"aa", "abcdef", "abcdef"},
            {"abbc", "bcadef", "cabdef"},
            {"bcab", "cabdef", "bcadef"},
            {"abbccddeef", "bcdefa", "fabcde"},
            {"abab", "abcdef", "abcdef"},
            {"afbecd", "fedcba", "fedcba"},
            {"fa", "fbcdea", "fbcdea"}};
        for (String[] row : rows) {
            check.due("turn 0 of " + row[0], images(turning(row[0]), 0), row[1]);
            check.due("turn 1 of " + row[0], images(turning(row[0]), 1), row[2]);
        }
    }

    private static void power() {
        Subject x = turning("abbcde");
        String[][] rows = {{"0", "abcdef"}, {"1", "bcaedf"}, {"2", "cabdef"}, {"3", "abcedf"}, {"-1", "cabedf"},
            {"-2", "bcadef"}, {"-3", "abcedf"}, {"6", "abcdef"}, {"7", "bcaedf"}, {"-7", "cabedf"},
            {"2147483647", "bcaedf"}, {"-2147483648", "bcadef"}, {"2147483646", "abcdef"}};
        for (String[] row : rows) {
            StringBuilder out = new StringBuilder();
            for (int name = 0; name < 6; name++) {
                out.append((char) ('a' + x.power(name, Integer.parseInt(row[0]))));
            }
            check.due("power " + row[0], out.toString(), row[1]);
        }
        Subject five = turning("abbccdde");
        check.due("power of a ring of five", five.power(0, 1000000001), 1);
        check.due("power of a ring of five, back", five.power(0, -1000000001), 4);
        check.due("power of a NAME that stays", five.power(5, 77), 5);
        Subject four = turning("abbccdef");
        check.due("power of a ring of four", four.power(0, 30), 2);
    }

    private static void rounds() {
        Object[][] rows = {
            {"", 1, 1, 0, 63},
            {"aa", 1, 1, 0, 63},
            {"ab", 2, 0, 1, 60},
            {"abab", 1, 1, 0, 63},
            {"abcd", 2, 1, 2, 48},
            {"abcdef", 2, 0, 3, 0},
            {"abbc", 3, 1, 1, 56},
            {"abbcde", 6, 0, 2, 32},
            {"abbccdef", 4, 1, 2, 0},
            {"abbccddeef", 6, 0, 1, 0},
            {"abbccdde", 5, 1, 1, 32},
            {"abbcdeef", 3, 1, 2, 0},
            {"bcaa", 2, 0, 1, 57}};
        for (Object[] row : rows) {
            Subject x = turning((String) row[0]);
            for (int what = 0; what < 4; what++) {
                check.due("rounds " + what + " of " + row[0], x.rounds(what), (Integer) row[what + 1]);
            }
        }
    }

    private static void shows() {
        String[][] rows = {{"", ""}, {"aa", ""}, {"ba", "!ab"}, {"abbc", "!ab!bc"}, {"bcab", "!ac!bc"},
            {"efcdab", "!ab!cd!ef"}, {"efdecdbcab", "!af!bf!cf!df!ef"}, {"abbccddeef", "!ab!bc!cd!de!ef"},
            {"abacad", "!ad!bd!cd"}, {"dfab", "!ab!df"}};
        for (String[] row : rows) {
            Subject x = turning(row[0]);
            check.due("shows " + row[0], Check.shows(x), row[1]);
            check.due("swaps of " + row[0], x.count(7), row[1].length() / 3);
            Subject again = turning(row[1].replace("!", ""));
            check.due("shows again " + row[0], images(again, 0), images(x, 0));
        }
    }

    private static void showsAnew() {
        Subject x = turning("ab");
        check.due("shows at first", Check.shows(x), "!ab");
        Check.type(x, 9, "cd");
        check.due("shows then", Check.shows(x), "!ab!cd");
        x.undo(9);
        check.due("shows with a FAULT", Check.shows(x), "");
    }

    private static void wrongNumbers() {
        Subject x = turning("ab");
        for (int bad : new int[] {-1, 6, Integer.MIN_VALUE, Integer.MAX_VALUE}) {
            check.due("turn of " + bad, x.turn(bad, 0), -2);
            check.due("power of " + bad, x.power(bad, 1), -2);
        }
        check.due("turn what -1", x.turn(0, -1), -2);
        check.due("turn what 2", x.turn(0, 2), -2);
        check.due("rounds -1", x.rounds(-1), -2);
        check.due("rounds 4", x.rounds(4), -2);
        check.due("shows -2", x.shows(-2), -2);
        check.due("shows 60", x.shows(60), -2);
        check.due("shows least", x.shows(Integer.MIN_VALUE), -2);
        check.due("shows 59", x.shows(59), -1);
        check.due("shows 3", x.shows(3), -1);
    }
}
