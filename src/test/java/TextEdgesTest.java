import java.util.function.Consumer;

/** The boundary cases of promises 1 to 6, and of what 'Terms' says of texts and FAULTS. */
public final class TextEdgesTest {
    private static final Edges edges = new Edges();
    private static final String LEAVES = "abcdefPQRSTU*";

    public static void main(String[] args) {
        newObjectHasNoTexts();
        newObjectHasNoSheets();
        newObjectsAreTheirOwn();
        typeTexts();
        typeBytes();
        typeUntilFull();
        typeBadAheadOfFull();
        typeAgainBehindFull();
        wipe();
        wipeOneText();
        undo();
        undoOfEmptyTexts();
        faultTexts();
        faultOfEmptyTexts();
        faultAtFirstByte();
        faultAtNames();
        faultBehindTheTerm();
        faultOfTermsNotEnded();
        faultOfFullTerms();
        faultOfTwos();
        asIfEmpty();
        equationIsThere();
        readNumbers();
        readOfLostSheets();
        readRows();
        readAsManyAsMay();
        readBytes();
        edges.end("TextEdgesTest", 1, 6);
    }

    private static int room(int text) {
        return text < 8 ? 30 : 24;
    }

    private static void newObjectHasNoTexts() {
        edges.says(1, "no texts");
        for (int text = 0; text < 10; text++) {
            edges.due("undo " + text, new Subject().undo(text), -3);
            edges.due("wipe " + text, new Subject().wipe(text), 0);
            edges.due("fault " + text, new Subject().fault(text), -1);
            edges.due("type " + text, new Subject().type(text, 97), 1);
        }
        Subject x = new Subject();
        for (int what = 0; what < 9; what++) {
            edges.due("count " + what, x.count(what), 0);
        }
        for (int text = 0; text < 8; text++) {
            edges.due("term " + text, x.term(text, 0), 0);
            edges.due("shown " + text, Check.shown(x, text), "");
        }
        for (int unknown = 0; unknown < 6; unknown++) {
            edges.due("value " + unknown, Check.value(x, unknown), "" + (char) ('P' + unknown));
        }
        edges.due("solved", x.solved(0) + " " + x.solved(1) + " " + x.solved(2) + " " + x.solved(3), "0 -1 0 0");
        edges.due("digest", x.digest(), Digest.of(new Subject()));
    }

    private static void newObjectHasNoSheets() {
        edges.says(1, "all SHEETS are LOST");
        for (int s = 0; s < 4; s++) {
            int lost = s;
            edges.found(x -> { }, "lose " + s, x -> x.lose(lost), 1);
            edges.found(x -> { }, "read " + s, x -> x.read(0, lost), 1);
            edges.found(x -> { }, "get " + s, x -> x.get(lost, 0, 0), 1, Edges.LEAST);
            edges.found(x -> { }, "lay " + s, x -> x.lay(lost, 0, 0, 0), 1);
            edges.found(x -> { }, "copy " + s, x -> x.copy(lost, 0, lost, 0, 0), 1);
            edges.found(x -> { }, "write " + s, x -> x.write(0, lost), 1);
        }
    }

    private static void newObjectsAreTheirOwn() {
        edges.says(1, "a new object, beside one that is used");
        String before = Edges.look(x -> { });
        Subject used = Check.with("P", "a", "", "", "", "", "", "", "aP", "ab");
        used.sheet(0, 0, 60);
        used.lose(1);
        edges.due("used", used.solved(0), 3);
        edges.due("new", Edges.look(x -> { }), before);
        edges.due("FINDING", new Subject().count(8), 0);
    }

    private static void typeTexts() {
        edges.says(2, "a text (0 to 9)");
        for (int text = 0; text < 10; text++) {
            edges.due("text " + text, new Subject().type(text, 97), 1);
        }
        for (int text : Edges.outside(10)) {
            edges.refused(Edges.texts("P", "a"), "text " + text, x -> x.type(text, 97), -2);
        }
    }

    private static void typeBytes() {
        edges.says(2, "a byte (0 to 255)");
        for (int b = 0; b < 256; b++) {
            edges.due("byte " + b, new Subject().type(b % 10, b), 1);
        }
        for (int b : Edges.outside(256)) {
            edges.refused(Edges.texts("", "P"), "byte " + b, x -> x.type(0, b), -2);
            edges.refused(Edges.texts("", "P"), "byte " + b + " to no text", x -> x.type(10, b), -2);
        }
        edges.refused(x -> { }, "a NAME and 256", x -> x.type(0, 256 + 'a'), -2);
        edges.refused(x -> { }, "a NAME less 256", x -> x.type(0, 'a' - 256), -2);
    }

    private static void typeUntilFull() {
        edges.says(2, "how many; FULL");
        for (int text = 0; text < 10; text++) {
            Subject x = new Subject();
            for (int many = 1; many <= room(text); many++) {
                edges.due("text " + text, x.type(text, many % 2 == 0 ? 255 : 0), many);
            }
            edges.due("text " + text + " and one more", x.type(text, 97), -4);
            int full = text;
            edges.refused(y -> Check.type(y, full, Edges.full('a', room(full))), "FULL text " + text, y -> y.type(full, 'b'), -4);
        }
        Subject all = new Subject();
        for (int text = 0; text < 10; text++) {
            Check.type(all, text, Edges.full('*', room(text)));
        }
        edges.due("bytes of all texts, all FULL", all.count(4), 288);
    }

    private static void typeBadAheadOfFull() {
        edges.says(2, "BAD; FULL");
        Consumer<Subject> full = x -> Check.type(x, 8, Edges.full('a', 24));
        edges.refused(full, "256 to a FULL text", x -> x.type(8, 256), -2);
        edges.refused(full, "-1 to a FULL text", x -> x.type(8, -1), -2);
        edges.refused(full, "255 to a FULL text", x -> x.type(8, 255), -4);
    }

    private static void typeAgainBehindFull() {
        edges.says(2, "FULL, and room again");
        for (int text = 0; text < 10; text++) {
            Subject x = made(text, room(text));
            edges.due("FULL " + text, x.type(text, 97), -4);
            edges.due("undo " + text, x.undo(text), room(text) - 1);
            edges.due("room for one " + text, x.type(text, 97), room(text));
            edges.due("FULL again " + text, x.type(text, 97), -4);
            edges.due("wipe " + text, x.wipe(text), room(text));
            edges.due("room for all " + text, x.type(text, 97), 1);
        }
    }

    private static Subject made(int text, int length) {
        Subject x = new Subject();
        Check.type(x, text, Edges.full('0', length));
        return x;
    }

    private static void wipe() {
        edges.says(3, "how many bytes it had; BAD");
        for (int text = 0; text < 10; text++) {
            for (int length : new int[] {0, 1, 2, room(text) - 1, room(text)}) {
                Subject x = made(text, length);
                edges.due("text " + text + " of " + length, x.wipe(text), length);
                edges.due("text " + text + " of none", x.wipe(text), 0);
                edges.due("fault of none", x.fault(text), -1);
                edges.due("bytes of none", x.count(4), 0);
            }
        }
        for (int text : Edges.outside(10)) {
            edges.refused(Edges.texts("P", "a", "", "", "", "", "", "", "aP", "ab"), "text " + text, x -> x.wipe(text), -2);
        }
    }

    private static void wipeOneText() {
        edges.says(3, "a text is empty");
        String[] all = {"P", "0a", "Q", "b", "R", "c", "S", "d", "bP", "ab"};
        for (int text = 0; text < 10; text++) {
            String[] rest = all.clone();
            rest[text] = "";
            int wiped = text;
            Consumer<Subject> before = Edges.texts(all);
            edges.due("text " + text, Edges.look(before.andThen(x -> x.wipe(wiped))), Edges.look(Edges.texts(rest)));
        }
        Subject x = Check.with(",ab");
        x.wipe(0);
        x.type(0, 'c');
        edges.due("bytes from before", Check.shown(x, 0), "c");
    }

    private static void undo() {
        edges.says(4, "the last byte of a text is undone: how many are left");
        for (int text = 0; text < 10; text++) {
            Subject x = made(text, room(text));
            for (int left = room(text) - 1; left >= 0; left--) {
                edges.due("text " + text, x.undo(text), left);
                edges.due("bytes", x.count(4), left);
            }
            edges.due("text " + text + " of none", x.undo(text), -3);
            edges.due("typed then", x.type(text, 97), 1);
        }
        Subject y = Check.with("P", "ab");
        edges.due("EQUATION with a byte too many", y.count(0), 0);
        y.undo(1);
        edges.due("EQUATION without it", Check.value(y, 0), "a");
    }

    private static void undoOfEmptyTexts() {
        edges.says(4, "BAD; NOT: it is empty");
        for (int text = 0; text < 10; text++) {
            String[] all = {"P", "0a", "Q", "b", "R", "c", "S", "d", "bP", "ab"};
            all[text] = "";
            int empty = text;
            edges.refused(Edges.texts(all), "text " + text, x -> x.undo(empty), -3);
        }
        for (int text : Edges.outside(10)) {
            edges.refused(x -> { }, "text " + text, x -> x.undo(text), -2);
            edges.refused(Edges.texts("P", "a"), "text " + text, x -> x.undo(text), -2);
        }
    }

    private static void fault(int text, String bytes, int want) {
        Subject x = new Subject();
        Check.type(x, text, bytes);
        edges.due("text " + text + " '" + bytes + "'", x.fault(text), want);
    }

    private static void faultTexts() {
        edges.says(5, "a text; BAD");
        for (int text = 0; text < 10; text++) {
            fault(text, "+", 0);
        }
        for (int text : Edges.outside(10)) {
            edges.refused(Edges.texts("g", "a"), "text " + text, x -> x.fault(text), -2);
        }
        edges.asked(Edges.texts("g"), "text 0", x -> x.fault(0), 0);
    }

    private static void faultOfEmptyTexts() {
        edges.says(5, "the FAULT of a text; NONE (an empty one is well)");
        for (int text = 0; text < 10; text++) {
            fault(text, "", -1);
            Subject x = made(text, 1);
            edges.due("text " + text + " with a byte", x.fault(text), text < 8 ? 1 : 0);
            x.undo(text);
            edges.due("text " + text + " without", x.fault(text), -1);
        }
    }

    private static void faultAtFirstByte() {
        edges.says("Terms", "a NAME; an UNKNOWN; *; a figure 0 to 4; , . !");
        for (int b = 0; b < 256; b++) {
            String bytes = "" + (char) b;
            int want = LEAVES.indexOf(b) >= 0 ? -1 : "01234,.!".indexOf(b) >= 0 ? 1 : 0;
            fault(b % 8, bytes, want);
            fault(7 - b % 8, "0" + bytes, want < 0 ? -1 : want + 1);
            fault(b % 8, ",a" + bytes, want < 0 ? -1 : want + 2);
            fault(7 - b % 8, ",0" + bytes, want < 0 ? 3 : want + 2);
            fault(b % 8, ".f" + bytes, want < 0 ? -1 : want + 2);
            fault(7 - b % 8, "!af" + bytes, want < 0 ? -1 : want + 3);
        }
    }

    private static void faultAtNames() {
        edges.says("Terms", ". a NAME and a TERM; ! two NAMES and a TERM; NAMES are a to f");
        for (int b = 0; b < 256; b++) {
            boolean isName = b >= 'a' && b <= 'f';
            fault(b % 8, "." + (char) b, isName ? 2 : 1);
            fault(b % 8, "." + (char) b + "*", isName ? -1 : 1);
            fault(7 - b % 8, "!" + (char) b + "a*", isName ? -1 : 1);
            fault(7 - b % 8, "!a" + (char) b + "*", isName ? -1 : 2);
        }
    }

    private static void faultBehindTheTerm() {
        edges.says("Terms", "of TERMS also of the first byte behind the TERM");
        for (int b = 0; b < 256; b++) {
            fault(b % 8, "*" + (char) b, 1);
            fault(7 - b % 8, ",aP" + (char) b + (char) b, 3);
        }
        fault(0, Edges.full('0', 28) + "a", -1);
        fault(0, Edges.full('0', 28) + "aa", 29);
        fault(0, "a" + Edges.full('g', 29), 1);
    }

    private static void faultOfTermsNotEnded() {
        edges.says("Terms", "of one that is not ended, its end");
        String whole = ",0.a!bc,P*4f";
        for (int length = 1; length < whole.length(); length++) {
            fault(length % 8, whole.substring(0, length), length);
        }
        fault(0, whole, -1);
        fault(7, whole + "f", whole.length());
    }

    private static void faultOfFullTerms() {
        edges.says("Terms", "TERMS are texts of up to 30 bytes");
        for (int text = 0; text < 8; text++) {
            fault(text, Edges.full('4', 29) + "*", -1);
            fault(text, Edges.full('4', 30), 30);
            fault(text, Edges.full('4', 29) + "5", 29);
            fault(text, Edges.full(',', 14) + Edges.full('P', 15), -1);
            fault(text, Edges.full(',', 14) + Edges.full('P', 16), 29);
            fault(text, Edges.full(',', 15) + Edges.full('P', 15), 30);
            fault(text, Edges.full('!', 1) + "ab" + Edges.full('0', 26) + "f", -1);
            fault(text, Edges.full('0', 28) + ".a", 30);
        }
    }

    private static void faultOfTwos() {
        edges.says("Terms", "FRESH, of a NAME and an UNKNOWN, SWAPS, of two NAMES, again and again, of up to 24 bytes");
        for (int b = 0; b < 256; b++) {
            boolean isName = b >= 'a' && b <= 'f';
            boolean isUnknown = b >= 'P' && b <= 'U';
            String bytes = "" + (char) b;
            fault(8, bytes, isName ? 1 : 0);
            fault(9, bytes, isName ? 1 : 0);
            fault(8, "a" + bytes, isUnknown ? -1 : 1);
            fault(9, "a" + bytes, isName ? -1 : 1);
            fault(8, "fU" + bytes, isName ? 3 : 2);
            fault(9, "ff" + bytes, isName ? 3 : 2);
            fault(8, "aP".repeat(11) + "f" + bytes, isUnknown ? -1 : 23);
            fault(9, "ab".repeat(11) + "f" + bytes, isName ? -1 : 23);
        }
        fault(8, "aP".repeat(11) + "f", 23);
        fault(9, "ab".repeat(11) + "f", 23);
        fault(8, "Pa".repeat(12), 0);
        fault(9, "aP".repeat(12), 1);
    }

    /** A text with a FAULT is told from an empty one by its bytes and its FAULT alone. */
    private static void asIfEmpty() {
        edges.says("Terms", "with a FAULT a text is as if it was empty");
        String[] well = {"P", "!ab,aQ", "Q", "b", ".aR", ".bS", "T", "U", "cS", "abbc"};
        for (int text = 0; text < 10; text++) {
            String[] ill = well.clone();
            ill[text] += "+";
            String[] none = well.clone();
            none[text] = "";
            Subject x = Check.with(ill);
            Subject y = Check.with(none);
            edges.due("bytes of " + text, x.count(4), y.count(4) + well[text].length() + 1);
            edges.due("fault of " + text, x.fault(text), well[text].length());
            edges.due("all else of " + text, told(x), told(y));
            x.undo(text);
            edges.due("mended " + text, told(x), told(Check.with(well)));
        }
    }

    private static String told(Subject x) {
        StringBuilder out = new StringBuilder(Check.shows(x));
        for (int text = 0; text < 8; text++) {
            out.append(' ').append(x.term(text, 0)).append(x.term(text, 1)).append(x.term(text, 2)).append(x.term(text, 3));
            out.append(Check.shown(x, text)).append(' ').append(Check.turned(x, text));
        }
        for (int equation = 0; equation < 4; equation++) {
            out.append(' ').append(x.count(equation)).append(x.alike(equation)).append(x.solved(equation)).append(x.rounds(equation));
        }
        for (int i = 0; i < 6; i++) {
            out.append(' ').append(x.turn(i, 0)).append(x.turn(i, 1)).append(x.power(i, 2));
            out.append(Check.value(x, i)).append(x.fresh(i)).append(' ').append(x.needs(i));
        }
        for (int k = 0; k < 24; k++) {
            out.append(' ').append(x.way(k, 0)).append(x.way(k, 1)).append(x.way(k, 2)).append(x.way(k, 3));
        }
        return out.append(' ').append(x.spare()).append(x.count(7)).toString();
    }

    private static void equationIsThere() {
        edges.says("Terms", "EQUATION i (0 to 3) is between texts 2 i and 2 i and 1; it is there, if neither is empty");
        String[] sides = {"", "P", "g", ",a", "aa"};
        for (int equation = 0; equation < 4; equation++) {
            for (String left : sides) {
                for (String right : sides) {
                    Subject x = new Subject();
                    Check.type(x, 2 * equation, left);
                    Check.type(x, 2 * equation + 1, right);
                    boolean isThere = left.equals("P") && right.equals("P");
                    for (int other = 0; other < 4; other++) {
                        edges.due(other + " of '" + left + "' '" + right + "'", x.count(other), isThere && other == equation ? 1 : 0);
                    }
                    edges.due("STEPS", x.solved(2), isThere ? 1 : 0);
                    edges.due("alike", x.alike(equation), isThere ? 1 : -3);
                }
            }
            Subject crossed = new Subject();
            Check.type(crossed, 2 * equation + 1, "P");
            Check.type(crossed, (2 * equation + 2) % 8, "P");
            edges.due("of two EQUATIONS one side each", crossed.solved(2), 0);
        }
    }

    private static void readNumbers() {
        edges.says(6, "BAD: text, SHEET");
        Consumer<Subject> before = x -> {
            x.type(0, 'P');
            x.sheet(3, 0, 2);
        };
        for (int text : Edges.outside(10)) {
            edges.refused(before, "text " + text, x -> x.read(text, 3), -2);
            edges.refused(before, "text " + text + ", a LOST SHEET", x -> x.read(text, 0), -2);
        }
        for (int s : Edges.outside(4)) {
            edges.refused(before, "SHEET " + s, x -> x.read(0, s), -2);
            edges.refused(before, "SHEET " + s + " to no text", x -> x.read(10, s), -2);
        }
        for (int text = 0; text < 10; text++) {
            for (int s = 0; s < 4; s++) {
                Subject x = new Subject();
                x.sheet(s, 0, 1);
                edges.due("text " + text + " SHEET " + s, x.read(text, s), 1);
                edges.due("byte of text " + text, x.undo(text), 0);
            }
        }
    }

    private static void readOfLostSheets() {
        edges.says(6, "NULL");
        for (int s = 0; s < 4; s++) {
            int lost = s;
            edges.found(Edges.texts("P"), "SHEET " + s, x -> x.read(0, lost), 1);
            Consumer<Subject> others = x -> {
                for (int other = 0; other < 4; other++) {
                    x.sheet(other, 0, 1);
                }
                x.lose(lost);
            };
            edges.found(others, "SHEET " + s + " alone", x -> x.read(9, lost), 1);
        }
        edges.found(x -> Check.type(x, 8, Edges.full('a', 24)), "to a FULL text", x -> x.read(8, 0), 1);
    }

    private static Subject row(int form, int... items) {
        Subject x = new Subject();
        x.sheet(1, form, items.length);
        for (int i = 0; i < items.length; i++) {
            x.lay(1, form, i, items[i]);
        }
        return x;
    }

    private static void readRows() {
        edges.says(6, "bytes from a SHEET come behind a text: its items");
        for (int form = 0; form < 3; form++) {
            Subject none = row(form);
            edges.due("no items", none.read(0, 1), 0);
            edges.due("bytes of no items", none.count(4), 0);
            edges.due("no FINDING", none.count(8), 0);
            Subject three = row(form, '.', 'a', 'P');
            three.type(0, ',');
            three.type(0, 'b');
            edges.due("three items", three.read(0, 1), 3);
            edges.due("text", Check.shown(three, 0), ",b.aP");
            edges.due("items stay", three.get(1, form, 0) + " " + three.get(1, form, 1) + " " + three.get(1, form, 2), "46 97 80");
            edges.due("read twice", three.read(0, 1), 3);
            edges.due("bytes", three.count(4), 8);
        }
    }

    private static void readAsManyAsMay() {
        edges.says(6, "as many as may: how many");
        for (int text = 0; text < 10; text++) {
            for (int size : new int[] {0, 1, 23, 24, 25, 29, 30, 31, 60}) {
                for (int had : new int[] {0, 1, room(text) - 1, room(text)}) {
                    Subject x = new Subject();
                    x.sheet(2, size % 3, size);
                    Check.type(x, text, Edges.full('a', had));
                    int want = Math.min(size, room(text) - had);
                    edges.due("text " + text + " of " + had + ", " + size + " items", x.read(text, 2), want);
                    edges.due("bytes", x.count(4), had + want);
                    edges.due("no FINDING", x.count(8), 0);
                }
            }
        }
    }

    private static void readBytes() {
        edges.says(6, "bytes (0 to 255)");
        for (int last : new int[] {0, 127}) {
            edges.due("byte " + last, row(0, 1, last, 2).read(0, 1), 3);
        }
        for (int form = 1; form < 3; form++) {
            for (int item : new int[] {0, 127, 128, 254, 255}) {
                edges.due("item " + item, row(form, 1, item, 2).read(0, 1), 3);
            }
            for (int item : new int[] {-1, 256, 257, 256 + 'a', -128, -32768, 32767}) {
                Subject x = row(form, 'a', item, 'b');
                edges.due("item " + item, x.read(0, 1), 1);
                edges.due("bytes", x.count(4), 1);
                edges.due("text", Check.shown(x, 0), "a");
                edges.due("first item " + item, row(form, item, 'a').read(0, 1), 0);
            }
        }
        for (int item : new int[] {65536, 65536 + 'a', Edges.LEAST, Edges.MOST}) {
            edges.due("item " + item, row(2, 'a', item, 'b').read(0, 1), 1);
        }
    }
}
