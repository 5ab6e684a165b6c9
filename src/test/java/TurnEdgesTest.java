import java.util.function.Consumer;

/** The boundary cases of promises 7 to 10, and of what 'Terms' says of TURNS. */
public final class TurnEdgesTest {
    private static final Edges edges = new Edges();
    /** Text 9, what THE TURN takes a to f to, and how it is SHOWN. */
    private static final String[][] TURNS = {
        {"", "abcdef", ""},
        {"aa", "abcdef", ""},
        {"ff".repeat(12), "abcdef", ""},
        {"ab".repeat(12), "abcdef", ""},
        {"ab".repeat(11), "bacdef", "!ab"},
        {"fe", "abcdfe", "!ef"},
        {"af", "fbcdea", "!af"},
        {"abbc", "bcadef", "!ab!bc"},
        {"bcab", "cabdef", "!ac!bc"},
        {"abcdef", "badcfe", "!ab!cd!ef"},
        {"abbcde", "bcaedf", "!ab!bc!de"},
        {"abbccdef", "bcdafe", "!ab!bc!cd!ef"},
        {"abbccddeef", "bcdefa", "!ab!bc!cd!de!ef"},
        {"efdecdbcab", "fabcde", "!af!bf!cf!df!ef"},
        {"abbccddeef".repeat(2) + "abbc", "decfab", "!ad!be!df!ef"},
        {"abbccddeefabbccddeefffaa", "cdefab", "!ac!bd!ce!df"}};

    public static void main(String[] args) {
        turnNumbers();
        turnBothWays();
        lastSwapFirst();
        swapOfLikeNames();
        powerNumbers();
        powerOfAnyNumber();
        roundsNumbers();
        roundsOfAll();
        showsNumbers();
        showsAll();
        fullText();
        faultIsNoTurn();
        edges.end("TurnEdgesTest", 7, 10);
    }

    private static Subject turning(String swaps) {
        Subject x = new Subject();
        Check.type(x, 9, swaps);
        return x;
    }

    private static Consumer<Subject> swaps(String swaps) {
        return x -> Check.type(x, 9, swaps);
    }

    private static String images(Subject x, int what) {
        StringBuilder out = new StringBuilder();
        for (int name = 0; name < 6; name++) {
            out.append((char) ('a' + x.turn(name, what)));
        }
        return out.toString();
    }

    private static String powers(Subject x, int k) {
        StringBuilder out = new StringBuilder();
        for (int name = 0; name < 6; name++) {
            out.append((char) ('a' + x.power(name, k)));
        }
        return out.toString();
    }

    private static void turnNumbers() {
        edges.says(7, "a NAME, what = 0, 1; BAD");
        for (int bad : Edges.outside(6)) {
            edges.refused(swaps("abbc"), "NAME " + bad, x -> x.turn(bad, 0), -2);
            edges.refused(swaps("abbc"), "NAME " + bad + ", back", x -> x.turn(bad, 1), -2);
            edges.refused(swaps("abbc"), "NAME " + bad + ", what 2", x -> x.turn(bad, 2), -2);
        }
        for (int bad : Edges.outside(2)) {
            edges.refused(swaps("abbc"), "what " + bad, x -> x.turn(0, bad), -2);
            edges.refused(swaps("abbc"), "what " + bad, x -> x.turn(5, bad), -2);
        }
        edges.asked(swaps("af"), "NAME 0", x -> x.turn(0, 0), 5);
        edges.asked(swaps("af"), "NAME 5", x -> x.turn(5, 1), 0);
    }

    private static void turnBothWays() {
        edges.says(7, "what THE TURN takes a NAME to (0), what it takes to that NAME (1)");
        for (String[] row : TURNS) {
            Subject x = turning(row[0]);
            edges.due("what 0 of " + row[0], images(x, 0), row[1]);
            for (int name = 0; name < 6; name++) {
                edges.due("there and back " + row[0], x.turn(x.turn(name, 0), 1), name);
                edges.due("back and there " + row[0], x.turn(x.turn(name, 1), 0), name);
            }
        }
    }

    private static void lastSwapFirst() {
        edges.says("Terms", "THE TURN is all SWAPS of text 9, the last one first");
        edges.due("a by abbc", turning("abbc").turn(0, 0), 1);
        edges.due("b by abbc", turning("abbc").turn(1, 0), 2);
        edges.due("c by abbc", turning("abbc").turn(2, 0), 0);
        edges.due("a by bcab", turning("bcab").turn(0, 0), 2);
        edges.due("c by bcab", turning("bcab").turn(2, 0), 1);
        Subject x = turning("ab");
        Check.type(x, 9, "bc");
        edges.due("a SWAP more comes first", images(x, 0), "bcadef");
        x.undo(9);
        x.undo(9);
        edges.due("and is undone", images(x, 0), "bacdef");
    }

    private static void swapOfLikeNames() {
        edges.says("Terms", "of like NAMES it changes nothing");
        for (char name = 'a'; name <= 'f'; name++) {
            String like = "" + name + name;
            edges.due(like, images(turning(like), 0), "abcdef");
            edges.due("ab" + like + "bc", images(turning("ab" + like + "bc"), 0), "bcadef");
            edges.due("rounds of " + like, turning(like).rounds(0), 1);
            edges.due("shows of " + like, turning(like).shows(-1), 0);
        }
        for (char n = 'a'; n <= 'f'; n++) {
            for (char m = 'a'; m <= 'f'; m++) {
                Subject x = turning("" + n + m);
                edges.due(n + " by the SWAP with " + m, x.turn(n - 'a', 0), m - 'a');
                edges.due(m + " by the SWAP with " + n, x.turn(m - 'a', 0), n - 'a');
                edges.due("turned back " + n + m, images(x, 1), images(turning("" + m + n), 0));
            }
        }
    }

    private static void powerNumbers() {
        edges.says(8, "a NAME; BAD");
        for (int bad : Edges.outside(6)) {
            for (int k : new int[] {0, 1, -1, Edges.LEAST, Edges.MOST}) {
                edges.refused(swaps("abbc"), "NAME " + bad + ", " + k + " times", x -> x.power(bad, k), -2);
            }
        }
        edges.asked(swaps("af"), "NAME 0", x -> x.power(0, 1), 5);
        edges.asked(swaps("af"), "NAME 5", x -> x.power(5, -1), 0);
    }

    private static void powerOfAnyNumber() {
        edges.says(8, "k times (any number; below 0: turned back so often)");
        int[] times = {0, 1, -1, 2, -2, 3, -3, 5, -5, 6, -6, 7, -7, 11, 12, 59, 60, 61, -59, -60, -61, 1000000007, -1000000007,
            Edges.MOST, Edges.MOST - 1, Edges.LEAST, Edges.LEAST + 1};
        for (String[] row : TURNS) {
            Subject x = turning(row[0]);
            int order = x.rounds(0);
            for (int k : times) {
                edges.due("of " + row[0] + ", " + k + " times", powers(x, k), repeated(row[1], Math.floorMod((long) k, order)));
            }
            edges.due("0 times", powers(x, 0), "abcdef");
            edges.due("once", powers(x, 1), row[1]);
            edges.due("once back", powers(x, -1), images(x, 1));
        }
    }

    private static String repeated(String images, int times) {
        String out = "abcdef";
        for (int i = 0; i < times; i++) {
            StringBuilder next = new StringBuilder();
            for (char name : out.toCharArray()) {
                next.append(images.charAt(name - 'a'));
            }
            out = next.toString();
        }
        return out;
    }

    private static void roundsNumbers() {
        edges.says(9, "what = 0, 1, 2, 3; BAD");
        for (int bad : Edges.outside(4)) {
            edges.refused(swaps("abbc"), "what " + bad, x -> x.rounds(bad), -2);
            edges.refused(x -> { }, "what " + bad + ", nothing typed", x -> x.rounds(bad), -2);
        }
        edges.asked(swaps("abbc"), "what 0", x -> x.rounds(0), 3);
        edges.asked(swaps("abbc"), "what 3", x -> x.rounds(3), 56);
    }

    /** Every shape that the rings of a TURN of six NAMES can have. */
    private static void roundsOfAll() {
        edges.says(9, "until all are as they were (1 at least); an even number of SWAPS; rings; NAMES taken to themselves");
        Object[][] rows = {
            {"", 1, 1, 0, 63}, {"cc", 1, 1, 0, 63}, {"dede", 1, 1, 0, 63},
            {"ab", 2, 0, 1, 60}, {"ef", 2, 0, 1, 15}, {"abcd", 2, 1, 2, 48}, {"abcdef", 2, 0, 3, 0},
            {"abbc", 3, 1, 1, 56}, {"deef", 3, 1, 1, 7}, {"abbcde", 6, 0, 2, 32}, {"abbcdeef", 3, 1, 2, 0},
            {"abbccd", 4, 0, 1, 48}, {"abbccdef", 4, 1, 2, 0}, {"abbccdde", 5, 1, 1, 32}, {"bccddeef", 5, 1, 1, 1},
            {"abbccddeef", 6, 0, 1, 0}, {"ab".repeat(12), 1, 1, 0, 63}, {"ab".repeat(11), 2, 0, 1, 60}};
        for (Object[] row : rows) {
            Subject x = turning((String) row[0]);
            for (int what = 0; what < 4; what++) {
                edges.due("what " + what + " of '" + row[0] + "'", x.rounds(what), (Integer) row[what + 1]);
            }
        }
        edges.due("even though a SWAP of like NAMES is there", turning("abaacd").rounds(1), 1);
    }

    private static void showsNumbers() {
        edges.says(10, "i = NONE, 0 to 59; BAD");
        for (int bad : new int[] {-2, 60, -3, 61, Edges.LEAST, Edges.LEAST + 1, Edges.MOST - 1, Edges.MOST}) {
            edges.refused(swaps("abbc"), "i = " + bad, x -> x.shows(bad), -2);
            edges.refused(x -> { }, "i = " + bad + ", nothing typed", x -> x.shows(bad), -2);
        }
        edges.asked(swaps("abbc"), "i = -1", x -> x.shows(-1), 6);
        edges.asked(swaps("abbc"), "i = 0", x -> x.shows(0), '!');
        edges.asked(swaps("abbc"), "i = 5", x -> x.shows(5), 'c');
        edges.asked(swaps("abbc"), "i = 6", x -> x.shows(6), -1);
        edges.asked(swaps("abbc"), "i = 59", x -> x.shows(59), -1);
        edges.asked(x -> { }, "i = -1, nothing typed", x -> x.shows(-1), 0);
        edges.asked(x -> { }, "i = 0, nothing typed", x -> x.shows(0), -1);
    }

    private static void showsAll() {
        edges.says(10, "THE TURN as it is SHOWN: how many bytes, the i-th; NONE");
        for (String[] row : TURNS) {
            Subject x = turning(row[0]);
            edges.due("bytes of " + row[0], x.shows(-1), row[2].length());
            edges.due("all of " + row[0], Check.shows(x), row[2]);
            edges.due("SWAPS of " + row[0], x.count(7), row[2].length() / 3);
            edges.due("as SWAPS again", images(turning(row[2].replace("!", "")), 0), row[1]);
        }
        Subject most = turning("abbccddeef");
        edges.due("the last of 15", most.shows(14), 'f');
        edges.due("behind the last of 15", most.shows(15), -1);
    }

    private static void fullText() {
        edges.says(7, "all SWAPS of text 9, FULL");
        Subject x = turning("abbccddeef".repeat(2) + "abab");
        edges.due("FULL", x.type(9, 'a'), -4);
        edges.due("turn", images(x, 0), "cdefab");
        Subject y = turning("bc".repeat(11) + "de");
        edges.due("the twelfth SWAP counts", images(y, 0), "acbedf");
    }

    private static void faultIsNoTurn() {
        edges.says(7, "a FAULT in text 9: THE TURN takes each NAME to itself");
        for (String ill : new String[] {"a", "abb", "abg", "gab", "aP", "ab!cd", "ab".repeat(11) + "a", "ab".repeat(11) + "aP"}) {
            Subject x = turning(ill);
            edges.due("turn by " + ill, images(x, 0) + images(x, 1), "abcdefabcdef");
            edges.due("power by " + ill, powers(x, 7), "abcdef");
            edges.due("rounds by " + ill, x.rounds(0) + " " + x.rounds(1) + " " + x.rounds(2) + " " + x.rounds(3), "1 1 0 63");
            edges.due("shows by " + ill, Check.shows(x), "");
        }
        Subject x = turning("abb");
        x.type(9, 'c');
        edges.due("ended", images(x, 0), "bcadef");
    }
}
