import java.util.function.Consumer;

/** The boundary cases of promises 11 to 14, and of what 'Terms' says of TURNED, SHOWN, FRESH and ALIKE. */
public final class TermEdgesTest {
    private static final Edges edges = new Edges();
    private static final String FOUR = "!ab!bc!cd!de";
    private static final String FIVE = FOUR + "!ef";

    public static void main(String[] args) {
        termNumbers();
        termOfEmptyTexts();
        termOfEachKind();
        termOfFullTexts();
        termNames();
        termUnknowns();
        shownNumbers();
        shownOfEmptyTexts();
        shownUpToSixty();
        shownTurns();
        turnedNumbers();
        turnedOfEmptyTexts();
        turnedEachKind();
        turnedUpToSixty();
        alikeNumbers();
        alikeOfNone();
        alikeKinds();
        alikeBinders();
        freshInTerms();
        alikeUnknowns();
        alikeByFreshAlone();
        alikeOfFullTexts();
        edges.end("TermEdgesTest", 11, 14);
    }

    private static Subject typed(int text, String bytes) {
        Subject x = new Subject();
        Check.type(x, text, bytes);
        return x;
    }

    private static void termNumbers() {
        edges.says(11, "TERM text (0 to 7), what = 0, 1, 2, 3; BAD");
        Consumer<Subject> before = Edges.texts("P", "a", "", "", "", "", "", "", "aP", "ab");
        for (int bad : Edges.outside(8)) {
            for (int what = -1; what < 5; what++) {
                int asked = what;
                edges.due("text " + bad + " what " + what, Edges.made(before).term(bad, asked), -2);
            }
            edges.refused(before, "text " + bad, x -> x.term(bad, 0), -2);
        }
        for (int bad : Edges.outside(4)) {
            edges.refused(before, "what " + bad, x -> x.term(0, bad), -2);
            edges.due("what " + bad + " of an empty one", new Subject().term(7, bad), -2);
        }
        for (int text = 0; text < 8; text++) {
            int asked = text;
            edges.asked(y -> Check.type(y, asked, ",aP"), "text " + text, y -> y.term(asked, 0), 3);
        }
    }

    private static void termOfEmptyTexts() {
        edges.says(11, "(an empty one: 0)");
        for (int text = 0; text < 8; text++) {
            for (int what = 0; what < 4; what++) {
                edges.due("nothing typed", new Subject().term(text, what), 0);
                edges.due("all wiped", wiped(text, ",aP").term(text, what), 0);
                edges.due("with a FAULT", typed(text, ",aPa").term(text, what), 0);
                edges.due("not ended", typed(text, ",a").term(text, what), 0);
            }
        }
    }

    private static Subject wiped(int text, String bytes) {
        Subject x = typed(text, bytes);
        x.term(text, 0);
        x.wipe(text);
        return x;
    }

    private static void measures(String bytes, int... want) {
        for (int text : new int[] {0, 3, 7}) {
            Subject x = typed(text, bytes);
            for (int what = 0; what < 4; what++) {
                edges.due("what " + what + " of " + bytes, x.term(text, what), want[what]);
            }
        }
    }

    private static void termOfEachKind() {
        edges.says(11, "NAMES, UNKNOWNS, NOTHINGS, SIGNS, PAIRS, BINDERS; a BINDER and its NAME as one; the longest row down");
        measures("b", 1, 1, 2, 0);
        measures("Q", 1, 1, 0, 2);
        measures("*", 1, 1, 0, 0);
        measures("4*", 2, 2, 0, 0);
        measures(",**", 3, 2, 0, 0);
        measures(".a*", 2, 2, 0, 0);
        measures("!ab*", 1, 1, 0, 0);
        measures(",*,*,**", 7, 4, 0, 0);
        measures(",,,****", 7, 4, 0, 0);
        measures(",,**,**", 7, 3, 0, 0);
        measures(",00**", 5, 4, 0, 0);
        measures(",*00*", 5, 4, 0, 0);
        measures("!ab,!cd0*!ef.a*", 5, 3, 0, 0);
    }

    private static void termOfFullTexts() {
        edges.says(11, "of texts of up to 30 bytes");
        measures(Edges.full('0', 29) + "a", 30, 30, 1, 0);
        measures(Edges.full(',', 14) + Edges.full('U', 15), 29, 15, 0, 32);
        measures(",a".repeat(14) + "*", 29, 15, 1, 0);
        measures("0" + ",a".repeat(14) + "f", 30, 16, 33, 0);
        measures(".a".repeat(14) + "0b", 16, 16, 2, 0);
        measures("!ab".repeat(9) + "00a", 3, 3, 2, 0);
        measures("!ab".repeat(8) + "00000a", 6, 6, 1, 0);
        measures(Edges.full('0', 30), 0, 0, 0, 0);
    }

    private static void termNames() {
        edges.says(11, "NAMES that are not FRESH in it, if all are FRESH in all UNKNOWNS, as bits");
        for (int n = 0; n < 6; n++) {
            char name = (char) ('a' + n);
            char next = (char) ('a' + (n + 1) % 6);
            measures("" + name, 1, 1, 1 << n, 0);
            measures("." + name + name, 2, 2, 0, 0);
            measures("." + next + name, 2, 2, 1 << n, 0);
            measures("," + name + "." + name + name, 4, 3, 1 << n, 0);
            measures("!" + name + next + next, 1, 1, 1 << n, 0);
            measures("!" + name + next + "." + next + name, 2, 2, 1 << (n + 1) % 6, 0);
            measures("." + name + "!" + name + next + next, 2, 2, 0, 0);
            measures("!" + name + next + "P", 1, 1, 0, 1);
        }
        measures(",a,b,c,d,ef", 11, 6, 63, 0);
        measures(".a.b.c.d.e.f,a,b,c,d,ef", 17, 12, 0, 0);
        measures(".a.b.c.d.e,a,b,c,d,ef", 16, 11, 32, 0);
        measures(FIVE + ",a.fb", 4, 3, 6, 0);
    }

    private static void termUnknowns() {
        edges.says(11, "UNKNOWNS in it, as bits");
        for (int u = 0; u < 6; u++) {
            char unknown = (char) ('P' + u);
            measures("" + unknown, 1, 1, 0, 1 << u);
            measures(".a!ab0" + unknown, 3, 3, 0, 1 << u);
            measures("," + unknown + unknown, 3, 2, 0, 1 << u);
        }
        measures(",P,Q,R,S,TU", 11, 6, 0, 63);
        measures(",,,,,UTSRQP", 11, 6, 0, 63);
        Subject x = Check.with("P", "Q");
        edges.due("a VALUE is not put in", x.term(1, 3), 2);
    }

    private static void shownNumbers() {
        edges.says(12, "TERM text (0 to 7), i = NONE, 0 to 59; BAD");
        Consumer<Subject> before = Edges.texts(",aP", "a", "", "", "", "", "", "*", "aP", "ab");
        for (int bad : Edges.outside(8)) {
            edges.refused(before, "text " + bad, x -> x.shown(bad, -1), -2);
            edges.due("text " + bad + " and i", Edges.made(before).shown(bad, 60), -2);
        }
        for (int bad : new int[] {-2, 60, -3, 61, Edges.LEAST, Edges.LEAST + 1, Edges.MOST - 1, Edges.MOST}) {
            edges.refused(before, "i = " + bad, x -> x.shown(0, bad), -2);
            edges.due("i = " + bad + " of an empty one", Edges.made(before).shown(3, bad), -2);
        }
        edges.asked(before, "i = -1", x -> x.shown(0, -1), 3);
        edges.asked(before, "i = 0", x -> x.shown(0, 0), ',');
        edges.asked(before, "i = 2", x -> x.shown(0, 2), 'P');
        edges.asked(before, "i = 3", x -> x.shown(0, 3), -1);
        edges.asked(before, "i = 59", x -> x.shown(0, 59), -1);
        edges.asked(before, "text 7", x -> x.shown(7, 0), '*');
    }

    private static void shownOfEmptyTexts() {
        edges.says(12, "how many bytes, of no TERM");
        for (int text = 0; text < 8; text++) {
            edges.due("nothing typed", Check.shown(new Subject(), text), "");
            edges.due("wiped", Check.shown(wiped(text, ",aP"), text), "");
            edges.due("with a FAULT", Check.shown(typed(text, ",aPa"), text), "");
            edges.due("not ended", Check.shown(typed(text, ",a"), text), "");
            Subject x = typed(text, ",a");
            edges.due("not ended yet", x.shown(text, 0), -1);
            x.type(text, 'b');
            edges.due("ended", Check.shown(x, text), ",ab");
        }
    }

    /** In full, as the words say; cut only here. */
    private static void shownAs(String bytes, String all) {
        for (int text : new int[] {0, 7}) {
            Subject x = typed(text, bytes);
            edges.due("bytes of " + bytes, x.shown(text, -1), Math.min(60, all.length()));
            edges.due("all of " + bytes, Check.shown(x, text), all.substring(0, Math.min(60, all.length())));
        }
    }

    private static void shownUpToSixty() {
        edges.says(12, "of what is SHOWN 60 bytes at most are told");
        shownAs(FIVE + Edges.full('0', 9) + ",,PPP", Edges.full('0', 9) + ",," + (FIVE + "P").repeat(3));
        shownAs(FIVE + Edges.full('0', 10) + ",,PPP", Edges.full('0', 10) + ",," + (FIVE + "P").repeat(3));
        shownAs(FOUR + Edges.full('0', 6) + ",,,PQRS", Edges.full('0', 6) + ",,," + FOUR + "P" + FOUR + "Q" + FOUR + "R" + FOUR + "S");
        shownAs(FOUR + Edges.full('0', 7) + ",,,PPPP", Edges.full('0', 7) + ",,," + (FOUR + "P").repeat(4));
        shownAs(FOUR + Edges.full('0', 8) + ",,,PPPP", Edges.full('0', 8) + ",,," + (FOUR + "P").repeat(4));
        shownAs(FIVE + Edges.full(',', 7) + Edges.full('P', 8), Edges.full(',', 7) + (FIVE + "P").repeat(8));
        Subject x = typed(0, FIVE + Edges.full('0', 10) + ",,PPU");
        edges.due("the last of 60", x.shown(0, 59), 'U');
        edges.due("the last of 59", typed(0, FIVE + Edges.full('0', 9) + ",,PPU").shown(0, 58), 'U');
        edges.due("behind 59", typed(0, FIVE + Edges.full('0', 9) + ",,PPU").shown(0, 59), -1);
    }

    private static void shownTurns() {
        edges.says("Terms", "the least NAME n that it takes to another one m: ! n m, then likewise what is left");
        shownAs("!aaP", "P");
        shownAs("!ab!baP", "P");
        shownAs("!feU", "!efU");
        shownAs("!cb!abP", "!ac!bcP");
        shownAs("!ab!bc!abP", "!acP");
        shownAs("!ef!cd!abP", "!ab!cd!efP");
        shownAs("!ef!de!cd!bc!abP", "!af!bf!cf!df!efP");
        shownAs(FIVE + "P", FIVE + "P");
        shownAs("!ab,P!ab,Q!bcR", ",!abP,Q!bcR");
    }

    private static void turnedNumbers() {
        edges.says(13, "likewise, TURNED by THE TURN. BAD");
        Consumer<Subject> before = Edges.texts(",aP", "a", "", "", "", "", "", "*", "aP", "ab");
        for (int bad : Edges.outside(8)) {
            edges.refused(before, "text " + bad, x -> x.turned(bad, -1), -2);
            edges.due("text " + bad + " and i", Edges.made(before).turned(bad, 60), -2);
        }
        for (int bad : new int[] {-2, 60, -3, 61, Edges.LEAST, Edges.LEAST + 1, Edges.MOST - 1, Edges.MOST}) {
            edges.refused(before, "i = " + bad, x -> x.turned(0, bad), -2);
            edges.due("i = " + bad + " of an empty one", Edges.made(before).turned(3, bad), -2);
        }
        edges.asked(before, "i = -1", x -> x.turned(0, -1), 6);
        edges.asked(before, "i = 1", x -> x.turned(0, 1), 'b');
        edges.asked(before, "i = 5", x -> x.turned(0, 5), 'P');
        edges.asked(before, "i = 6", x -> x.turned(0, 6), -1);
        edges.asked(before, "i = 59", x -> x.turned(0, 59), -1);
        edges.asked(before, "text 7", x -> x.turned(7, 0), '*');
    }

    private static Subject turning(int text, String bytes, String swaps) {
        Subject x = typed(text, bytes);
        Check.type(x, 9, swaps);
        return x;
    }

    private static void turnedOfEmptyTexts() {
        edges.says(13, "of no TERM, by no SWAPS");
        for (int text = 0; text < 8; text++) {
            edges.due("nothing typed", Check.turned(new Subject(), text), "");
            edges.due("SWAPS alone", Check.turned(turning(text, "", "ab"), text), "");
            edges.due("with a FAULT", Check.turned(turning(text, "aa", "ab"), text), "");
            edges.due("no SWAPS", Check.turned(typed(text, ",a!baP"), text), ",a!abP");
            edges.due("SWAPS with a FAULT", Check.turned(turning(text, ",a!baP", "abc"), text), ",a!abP");
        }
    }

    private static void turned(String bytes, String swaps, String want) {
        for (int text : new int[] {0, 7}) {
            Subject x = turning(text, bytes, swaps);
            edges.due(bytes + " by " + swaps, Check.turned(x, text), want);
        }
    }

    private static void turnedEachKind() {
        edges.says("Terms", "TURNED by a TURN: a NAME, a BINDER, a SWAP, NOTHING, SIGNS, PAIRS, before an UNKNOWN");
        for (int n = 0; n < 6; n++) {
            turned("" + (char) ('a' + n), "abbccddeef", "" + "bcdefa".charAt(n));
            turned("." + (char) ('a' + n) + "*", "abbccddeef", "." + "bcdefa".charAt(n) + "*");
        }
        turned("*", "ab", "*");
        turned("4a", "ab", "4b");
        turned(",ab", "ab", ",ba");
        turned(".a,ab", "ab", ".b,ba");
        turned("!aca", "ab", "c");
        turned("!acc", "ab", "b");
        turned("P", "ab", "!abP");
        turned("!abP", "ab", "P");
        turned("!abP", "bc", "!ac!bcP");
        turned("!bcP", "ab", "!ab!bcP");
        turned(".a!abP", "ab", ".bP");
        turned("P", "ab".repeat(12), "P");
    }

    private static void turnedUpToSixty() {
        edges.says(13, "of what is SHOWN 60 bytes at most are told");
        for (int signs = 9; signs < 14; signs++) {
            String all = Edges.full('1', signs) + ",," + (FIVE + "P").repeat(2) + FIVE + "U";
            Subject x = turning(7, Edges.full('1', signs) + ",,PPU", "abbccddeef");
            edges.due("bytes with " + signs, x.turned(7, -1), Math.min(60, all.length()));
            edges.due("all with " + signs, Check.turned(x, 7), all.substring(0, Math.min(60, all.length())));
        }
        Subject most = turning(0, Edges.full(',', 14) + Edges.full('P', 15), "abbccddeef");
        edges.due("bytes of 254", most.turned(0, -1), 60);
        edges.due("the last told", most.turned(0, 59), (Edges.full(',', 14) + (FIVE + "P").repeat(15)).charAt(59));
    }

    private static void alikeNumbers() {
        edges.says(14, "an EQUATION (0 to 3); BAD");
        Consumer<Subject> before = Edges.texts("a", "a", "a", "a", "a", "a", "a", "a");
        for (int bad : Edges.outside(4)) {
            edges.refused(before, "EQUATION " + bad, x -> x.alike(bad), -2);
            edges.refused(x -> { }, "EQUATION " + bad + ", nothing typed", x -> x.alike(bad), -2);
        }
        for (int equation = 0; equation < 4; equation++) {
            int asked = equation;
            edges.asked(before, "EQUATION " + equation, x -> x.alike(asked), 1);
            Subject x = Edges.made(before);
            Check.retype(x, 2 * equation + 1, "b");
            for (int other = 0; other < 4; other++) {
                edges.due("EQUATION " + other + ", unlike is " + equation, x.alike(other), other == equation ? 0 : 1);
            }
        }
    }

    private static void alikeOfNone() {
        edges.says(14, "NOT: it is not there");
        String[][] sides = {{"", ""}, {"a", ""}, {"", "a"}, {"g", "a"}, {"a", "aa"}, {",a", ",a"}};
        for (int equation = 0; equation < 4; equation++) {
            for (String[] two : sides) {
                int asked = equation;
                Consumer<Subject> before = x -> {
                    Check.type(x, 2 * asked, two[0]);
                    Check.type(x, 2 * asked + 1, two[1]);
                };
                edges.refused(before, equation + ": '" + two[0] + "' '" + two[1] + "'", x -> x.alike(asked), -3);
            }
        }
    }

    private static void alike(String left, String right, String fresh, int want) {
        for (int equation : new int[] {0, 3}) {
            Subject x = new Subject();
            Check.type(x, 2 * equation, left);
            Check.type(x, 2 * equation + 1, right);
            Check.type(x, 8, fresh);
            edges.due(left + " and " + right + " by '" + fresh + "'", x.alike(equation), want);
        }
    }

    private static void alikeKinds() {
        edges.says("Terms", "ALIKE: two NAMES that are one; NOTHING and NOTHING; two of one SIGN, two PAIRS of what is ALIKE");
        String[] all = {"a", "b", "f", "P", "U", "*", "0a", "4a", "0b", ",aa", ",ab", ",ba", ".aa", ".ab"};
        for (int i = 0; i < all.length; i++) {
            for (int j = 0; j < all.length; j++) {
                alike(all[i], all[j], "", i == j ? 1 : 0);
            }
        }
        alike(",.aa*", ",.bb*", "", 1);
        alike(",*.aa", ",*.bb", "", 1);
        alike(",.aa*", ",.bc*", "", 0);
        alike(",*.aa", ",*.bc", "", 0);
        alike("!abb", "a", "", 1);
        alike("!aba", "a", "", 0);
    }

    private static void alikeBinders() {
        edges.says("Terms", "BINDERS of one NAME; of n and of another NAME m, if n is FRESH in the TERM of m");
        alike(".aa", ".aa", "", 1);
        alike(".ab", ".ac", "", 0);
        alike(".aa", ".bb", "", 1);
        alike(".ab", ".ba", "", 0);
        alike(".ab", ".ca", "", 0);
        alike(".ac", ".bc", "", 1);
        alike(".aa", ".bc", "", 0);
        alike(".a.b,ab", ".b.a,ba", "", 1);
        alike(".a.b,ab", ".c.d,cd", "", 1);
        alike(".a.b,ab", ".c.d,dc", "", 0);
        alike(".a.aa", ".b.aa", "", 1);
        alike(".a.aa", ".b.cc", "", 1);
        alike(".a.ba", ".b.ab", "", 1);
        alike("!ab.aa", ".aa", "", 1);
        alike(".f.e.d.c.b.a,f,e,d,c,ba", ".a.b.c.d.e.f,a,b,c,d,ef", "", 1);
        alike(".f.e.d.c.b.a,f,e,d,c,ba", ".a.b.c.d.e.f,a,b,c,d,fe", "", 0);
    }

    /** The TERMS of both BINDERS are one but for the SWAP, so only whether a is FRESH in it is asked. */
    private static void freshInTerm(String term, String fresh, int want) {
        alike(".a!ab" + term, ".b" + term, fresh, want);
    }

    private static void freshInTerms() {
        edges.says("Terms", "a NAME n is FRESH in a TERM");
        for (char name = 'a'; name <= 'f'; name++) {
            freshInTerm("" + name, "", name == 'a' ? 0 : 1);
            freshInTerm("." + name + "a", "", name == 'a' ? 1 : 0);
            freshInTerm("." + name + "b", "", 1);
        }
        freshInTerm("*", "", 1);
        freshInTerm("0b", "", 1);
        freshInTerm("0a", "", 0);
        freshInTerm(",bc", "", 1);
        freshInTerm(",ab", "", 0);
        freshInTerm(",ba", "", 0);
        freshInTerm(".b.aa", "", 1);
        freshInTerm(",.aaa", "", 0);
        freshInTerm(",a.aa", "", 0);
        freshInTerm("P", "", 0);
        freshInTerm("P", "aP", 1);
        freshInTerm("P", "bPcPdPePfP", 0);
        freshInTerm("P", "aQaRaSaTaU", 0);
        freshInTerm("U", "aU", 1);
        freshInTerm("!abP", "aP", 0);
        freshInTerm("!abP", "bP", 1);
        freshInTerm("!ab!bcP", "cP", 1);
        freshInTerm("!ab!bcP", "aPbP", 0);
        freshInTerm("!ab.b!abP", "", 1);
        freshInTerm("!ab.a!abP", "", 0);
        freshInTerm("!ab.bP", "", 1);
        freshInTerm("!ab.aP", "aP", 0);
        freshInTerm("!ab.aP", "bP", 1);
        freshInTerm(".a!abP", "", 1);
        freshInTerm(",PQ", "aP", 0);
        freshInTerm(",PQ", "aQ", 0);
        freshInTerm(",PQ", "aPaQ", 1);
    }

    private static void alikeUnknowns() {
        edges.says("Terms", "one UNKNOWN with two TURNS PENDING, if each NAME that they do not take to one NAME is FRESH in it");
        String names = "abcdef";
        for (char unknown = 'P'; unknown <= 'U'; unknown++) {
            alike("" + unknown, "" + unknown, "", 1);
            String all = "a" + unknown + "b" + unknown + "c" + unknown + "d" + unknown + "e" + unknown + "f" + unknown;
            alike(FIVE + unknown, "" + unknown, all, 1);
            for (int n = 0; n < 6; n++) {
                alike(FIVE + unknown, "" + unknown, all.replace("" + names.charAt(n) + unknown, ""), 0);
            }
            for (char other = 'P'; other <= 'U'; other++) {
                if (other != unknown) {
                    alike("" + unknown, "" + other, all, 0);
                }
            }
        }
        alike("!abP", "!abP", "", 1);
        alike("!abP", "!cdP", "aPbPcPdP", 1);
        alike("!abP", "!cdP", "aPbPcP", 0);
        alike("!abP", "!bc!abP", "aPcP", 1);
        alike("!abP", "!bc!abP", "aPbP", 0);
        alike("!abP", "!bc!abP", "bPcP", 0);
        alike("P", "a", "aPbPcPdPePfP", 0);
    }

    private static void alikeByFreshAlone() {
        edges.says(14, "by what FRESH says alone");
        Subject x = Check.with("P", "!abP", "P", "*", "P", "Q", ".aP", ".b!abP");
        edges.due("no FRESH", x.alike(0), 0);
        edges.due("a VALUE", x.alike(1), 0);
        edges.due("UNKNOWNS that get one VALUE", x.alike(2), 0);
        edges.due("what must be FRESH is not told", x.alike(3), 0);
        Check.type(x, 8, "bP");
        edges.due("what must be FRESH is told", x.alike(3), 1);
        edges.due("but half of it", x.alike(0), 0);
        Check.type(x, 8, "a");
        edges.due("FRESH with a FAULT", x.alike(3), 0);
        Check.type(x, 8, "P");
        edges.due("FRESH, all", x.alike(0), 1);
        Subject full = Check.with("!abP", "P", "", "", "", "", "", "", "cQ".repeat(10) + "aPbP");
        edges.due("the last two of a FULL text", full.alike(0), 1);
        Subject none = Check.with("a", "b", "P", "P");
        edges.due("where there is no answer", none.alike(1), 1);
    }

    private static void alikeOfFullTexts() {
        edges.says(14, "both of an EQUATION, of up to 30 bytes");
        alike(Edges.full('0', 29) + "a", Edges.full('0', 29) + "a", "", 1);
        alike(Edges.full('0', 29) + "a", Edges.full('0', 29) + "b", "", 0);
        alike(".a".repeat(14) + "0a", ".b".repeat(14) + "0b", "", 1);
        alike(".a".repeat(14) + "0a", ".b".repeat(14) + "0c", "", 0);
        alike(Edges.full(',', 14) + Edges.full('a', 15), Edges.full(',', 14) + Edges.full('a', 15), "", 1);
        alike(Edges.full(',', 14) + Edges.full('a', 15), Edges.full(',', 14) + Edges.full('a', 14) + "b", "", 0);
        alike(Edges.full(',', 14) + Edges.full('a', 15), Edges.full(',', 14) + "b" + Edges.full('a', 14), "", 0);
    }
}
