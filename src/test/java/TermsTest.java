/** Promises 11 to 14: term, shown, turned, alike. */
public final class TermsTest {
    private static final Check check = new Check();

    public static void main(String[] args) {
        term();
        shown();
        turned();
        sixtyBytesAtMost();
        alike();
        wrongNumbers();
        check.end("TermsTest");
    }

    private static void term() {
        Object[][] rows = {
            {"", 0, 0, 0, 0},
            {"a", 1, 1, 1, 0},
            {"f", 1, 1, 32, 0},
            {"P", 1, 1, 0, 1},
            {"U", 1, 1, 0, 32},
            {"*", 1, 1, 0, 0},
            {"0a", 2, 2, 1, 0},
            {".aa", 2, 2, 0, 0},
            {".ab", 2, 2, 2, 0},
            {"!aba", 1, 1, 2, 0},
            {"!aab", 1, 1, 2, 0},
            {"!ab,ac", 3, 2, 6, 0},
            {"!ab.aa", 2, 2, 0, 0},
            {"!ab.ab", 2, 2, 1, 0},
            {".a!aba", 2, 2, 2, 0},
            {".a!abb", 2, 2, 0, 0},
            {"!ab!bca", 1, 1, 2, 0},
            {"!bc!aba", 1, 1, 4, 0},
            {"!ab!bcc", 1, 1, 1, 0},
            {",,ab,cQ", 7, 3, 7, 2},
            {",.aaa", 4, 3, 1, 0},
            {",a,b,c,d,e,f,PU", 15, 8, 63, 33},
            {".a.b.c.d.e.f!abP", 7, 7, 0, 1},
            {"00000000000000000000000000000*", 30, 30, 0, 0},
            {",,,,*****", 9, 5, 0, 0},
            {"aa", 0, 0, 0, 0}};
        for (Object[] row : rows) {
            for (int text = 0; text < 8; text += 7) {
                Subject x = new Subject();
                Check.type(x, text, (String) row[0]);
                for (int what = 0; what < 4; what++) {
                    check.due("term " + what + " of " + row[0], x.term(text, what), (Integer) row[what + 1]);
                }
            }
        }
    }

    private static void shown() {
        String[][] rows = {{"", ""}, {"a", "a"}, {",a.bP", ",a.bP"}, {"!aba", "b"}, {"!abc", "c"}, {"!ab.a,ac", ".b,bc"},
            {"!abP", "!abP"}, {"!baP", "!abP"}, {"!aaP", "P"}, {"!ab!abP", "P"}, {"!ab!bcP", "!ab!bcP"}, {"!bc!abP", "!ac!bcP"},
            {"!ab,P!bc,aQ", ",!abP,b!ab!bcQ"}, {"0!ab1!cd*", "01*"}, {"!ab!bc,c*", ",a*"}, {"!bc!ab,c*", ",b*"},
            {".a!abP", ".a!abP"}, {"!ab.a!abP", ".bP"}, {"!ef,,ef,FP", ""}, {"aa", ""}, {",P", ""}};
        for (String[] row : rows) {
            for (int text = 0; text < 8; text += 7) {
                Subject x = new Subject();
                Check.type(x, text, row[0]);
                check.due("shown " + row[0], Check.shown(x, text), row[1]);
            }
        }
    }

    private static void turned() {
        String[][] rows = {{"", "ab", ""}, {"a", "", "a"}, {"a", "ab", "b"}, {"!abP", "ab", "P"}, {"!abP", "bc", "!ac!bcP"},
            {"!bcP", "ab", "!ab!bcP"}, {".a,aP", "abbcde", ".b,b!ab!bc!deP"}, {"!abc", "abbc", "a"}, {",a*", "abbc", ",b*"},
            {"!ab,a2Q", "ab", ",a2Q"}, {"a", "abc", "a"}, {"aa", "ab", ""}};
        for (String[] row : rows) {
            Subject x = new Subject();
            Check.type(x, 6, row[0]);
            Check.type(x, 9, row[1]);
            check.due("turned " + row[0] + " by " + row[1], Check.turned(x, 6), row[2]);
            check.due("but shown " + row[0], Check.shown(x, 6), Check.shown(Check.with(row[0]), 0));
        }
        Subject x = Check.with("a", "P");
        check.due("turned ahead", Check.turned(x, 0), "a");
        Check.type(x, 9, "af");
        check.due("turned behind", Check.turned(x, 0), "f");
        check.due("turned other", Check.turned(x, 1), "!afP");
        x.undo(9);
        check.due("turned by a FAULT", Check.turned(x, 0), "a");
    }

    private static void sixtyBytesAtMost() {
        String six = "!ab!bc!cd!de!ef,,PPP";
        String all = ",,!ab!bc!cd!de!efP!ab!bc!cd!de!efP!ab!bc!cd!de!efP";
        check.due("shown of 50", Check.shown(Check.with(six), 0), all);
        Subject x = Check.with("!ab!bc!cd!de!ef,,,PPPP");
        check.due("shown of more", Check.shown(x, 0), ("," + all + "!ab!bc!cd!de!ef").substring(0, 60));
        check.due("shown how many", x.shown(0, -1), 60);
        check.due("shown 59", x.shown(0, 59), 'd');
        check.due("shown 60", x.shown(0, 60), -2);
    }

    private static void alike(String left, String right, String fresh, int want) {
        for (int equation = 0; equation < 4; equation += 3) {
            Subject x = new Subject();
            Check.type(x, 2 * equation, left);
            Check.type(x, 2 * equation + 1, right);
            Check.type(x, 8, fresh);
            check.due("alike " + left + " " + right + " by '" + fresh + "'", x.alike(equation), want);
        }
    }

    private static void alike() {
        alike("a", "a", "", 1);
        alike("a", "b", "", 0);
        alike("*", "*", "", 1);
        alike("*", "a", "", 0);
        alike("0a", "0a", "", 1);
        alike("0a", "1a", "", 0);
        alike("0a", "0b", "", 0);
        alike(",ab", ",ab", "", 1);
        alike(",ab", ",ac", "", 0);
        alike(",ab", ",cb", "", 0);
        alike(".aa", ".bb", "", 1);
        alike(".aa", ".ab", "", 0);
        alike(".ab", ".ba", "", 0);
        alike(".ac", ".bc", "", 1);
        alike(".ab", ".cb", "", 1);
        alike(".a.b,ab", ".b.a,ba", "", 1);
        alike(".a.b,ab", ".b.a,ab", "", 0);
        alike(".a.ba", ".b.bb", "", 0);
        alike(".a.bb", ".b.bb", "", 1);
        alike("!aba", "b", "", 1);
        alike("!ab.aP", ".bP", "", 0);
        alike("P", "P", "", 1);
        alike("P", "Q", "", 0);
        alike("P", "Q", "aPbPcPdPePfPaQbQcQdQeQfQ", 0);
        alike("P", "a", "", 0);
        alike("a", "P", "", 0);
        alike("!abP", "P", "", 0);
        alike("!abP", "P", "aP", 0);
        alike("!abP", "P", "bP", 0);
        alike("!abP", "P", "aPbP", 1);
        alike("!abP", "P", "aQbQ", 0);
        alike("!abP", "!baP", "", 1);
        alike("!ab!bcP", "!bc!acP", "", 1);
        alike("!ab!bcP", "!ab!cdP", "", 0);
        alike("!ab!bcP", "!ab!cdP", "bPcPdP", 1);
        alike("!ab!bcP", "!ab!cdP", "aPcPdP", 0);
        alike(".aP", ".bP", "", 0);
        alike(".aP", ".bP", "aP", 0);
        alike(".aP", ".bP", "aPbP", 1);
        alike(".aP", ".b!abP", "", 0);
        alike(".aP", ".b!abP", "bP", 1);
        alike(".aP", ".b!abP", "aP", 0);
        alike("!cd.aP", ".b!cd!abP", "bP", 1);
        alike(".c!abP", ".d!abP", "cPdP", 1);
        alike(".a,aP", ".b,bP", "aPbPc", 0);
        Subject x = Check.with("P", "!abP", "P", "P");
        check.due("alike, not", x.alike(0), 0);
        check.due("alike, behind another", x.alike(1), 1);
        check.due("alike of none", Check.with("a").alike(0), -3);
        check.due("alike of an ill one", Check.with("a", "g").alike(0), -3);
        check.due("alike with no VALUES", Check.with("P", "a", "P", "a").alike(1), 0);
    }

    private static void wrongNumbers() {
        Subject x = Check.with("a", "a");
        for (int bad : new int[] {-1, 8, 9, Integer.MIN_VALUE, Integer.MAX_VALUE}) {
            check.due("term of " + bad, x.term(bad, 0), -2);
            check.due("shown of " + bad, x.shown(bad, 0), -2);
            check.due("turned of " + bad, x.turned(bad, 0), -2);
        }
        for (int bad : new int[] {-1, 4, Integer.MIN_VALUE, Integer.MAX_VALUE}) {
            check.due("term what " + bad, x.term(0, bad), -2);
            check.due("alike " + bad, x.alike(bad), -2);
        }
        for (int bad : new int[] {-2, 60, Integer.MIN_VALUE, Integer.MAX_VALUE}) {
            check.due("shown place " + bad, x.shown(0, bad), -2);
            check.due("turned place " + bad, x.turned(0, bad), -2);
        }
        check.due("shown 59", x.shown(0, 59), -1);
        check.due("turned 59", x.turned(0, 59), -1);
    }
}
