import java.util.ArrayList;
import java.util.List;
import java.util.function.Consumer;
import java.util.function.Function;

/** What is told follows each change: asked for before it and again behind it, or between other things, it is told as if never asked for before. */
public final class AskedAgainTest {
    private static final Edges edges = new Edges();
    private static final String LONG_SHOWN = "!ab!bc!cd!de!ef,,,,PPPPP";
    private static final String DOUBLES = ",P,Q,R,S,TU ,,QQ,,RR,,SS,,TT,,UU*";

    private record Ask(int promise, String name, Function<Subject, String> call) { }

    private record Change(int promise, String name, Consumer<Subject> call) { }

    public static void main(String[] args) {
        behindChanges();
        betweenOthers();
        edges.end("AskedAgainTest", 2, 28);
    }

    private static List<Ask> asks() {
        List<Ask> out = new ArrayList<>();
        for (int i = 0; i < 10; i++) {
            int text = i;
            out.add(new Ask(5, "fault " + i, x -> "" + x.fault(text)));
        }
        out.add(new Ask(7, "turn", x -> x.turn(0, 0) + " " + x.turn(0, 1)));
        out.add(new Ask(8, "power", x -> x.power(0, 2) + " " + x.power(1, -3)));
        out.add(new Ask(9, "rounds", x -> x.rounds(0) + " " + x.rounds(1) + " " + x.rounds(2) + " " + x.rounds(3)));
        out.add(new Ask(10, "shows", Check::shows));
        for (int i = 0; i < 8; i++) {
            int text = i;
            out.add(new Ask(11, "term " + i, x -> x.term(text, 0) + " " + x.term(text, 1) + " " + x.term(text, 2) + " " + x.term(text, 3)));
            out.add(new Ask(12, "shown " + i, x -> Check.shown(x, text)));
            out.add(new Ask(13, "turned " + i, x -> Check.turned(x, text)));
        }
        for (int i = 0; i < 4; i++) {
            int what = i;
            out.add(new Ask(14, "alike " + i, x -> "" + x.alike(what)));
            out.add(new Ask(15, "solved " + i, x -> "" + x.solved(what)));
            out.add(new Ask(19, "way 0 " + i, x -> "" + x.way(0, what)));
            out.add(new Ask(19, "way 23 " + i, x -> "" + x.way(23, what)));
        }
        for (int i = 0; i < 6; i++) {
            int unknown = i;
            out.add(new Ask(16, "value " + i, x -> Check.value(x, unknown)));
            out.add(new Ask(17, "fresh " + i, x -> "" + x.fresh(unknown)));
            out.add(new Ask(18, "needs " + i, x -> "" + x.needs(unknown)));
        }
        out.add(new Ask(20, "spare", x -> "" + x.spare()));
        out.add(new Ask(26, "write", AskedAgainTest::written));
        for (int i = 0; i < 8; i++) {
            int what = i;
            out.add(new Ask(27, "count " + i, x -> "" + x.count(what)));
        }
        out.add(new Ask(28, "digest", x -> "" + x.digest()));
        return out;
    }

    private static String written(Subject x) {
        x.sheet(2, 0, 60);
        StringBuilder out = new StringBuilder().append(x.write(0, 2));
        for (int i = 0; i < 60; i++) {
            out.append(' ').append(x.get(2, 0, i));
        }
        return out.toString();
    }

    private static List<Change> changes(String bytes) {
        List<Change> out = new ArrayList<>();
        for (int i = 0; i < 10; i++) {
            int text = i;
            out.add(new Change(2, "type to " + i, x -> x.type(text, bytes.charAt(0))));
            out.add(new Change(3, "wipe of " + i, x -> x.wipe(text)));
            out.add(new Change(4, "undo of " + i, x -> x.undo(text)));
            out.add(new Change(6, "read to " + i, x -> {
                x.sheet(1, 0, bytes.length());
                for (int at = 0; at < bytes.length(); at++) {
                    x.lay(1, 0, at, bytes.charAt(at));
                }
                x.read(text, 1);
            }));
        }
        return out;
    }

    private static void behindChanges() {
        String[] states = {"", "P a P b Q 0Q ,RS ,ST aPbQ abbc", "P .a,aQ Q !abR S T .aa .bb aRbS abcd", "a b a b a b a b", "a b",
            "      P 0P",
            "P b P b P a P a aP abcdef", "P aa a ,a P a , R a b", "P " + LONG_SHOWN.replace('P', 'Q') + " Q a " + LONG_SHOWN + " *"};
        for (String texts : states) {
            Consumer<Subject> before = Edges.texts(texts.split(" ", -1));
            for (String bytes : new String[] {"a", "bc", "P", ",PQ", "aP"}) {
                for (Change change : changes(bytes)) {
                    behindChange(before, change, texts);
                }
            }
        }
        for (int promise = 21; promise <= 25; promise++) {
            edges.says(promise, "of SHEETS nothing is told of texts");
            Ask digest = new Ask(28, "digest", x -> "" + x.digest());
            Change sheets = new Change(promise, "all of SHEETS", x -> {
                x.sheet(0, 0, 5);
                x.lay(0, 0, 0, 'a');
                x.copy(0, 0, 0, 1, 2);
                x.get(0, 0, 1);
                x.lose(0);
            });
            Subject x = Check.with("P", "a", "Q", "b");
            String told = digest.call.apply(x);
            sheets.call.accept(x);
            edges.due("digest", digest.call.apply(x), told);
        }
    }

    private static void behindChange(Consumer<Subject> before, Change change, String texts) {
        for (Ask ask : asks()) {
            Subject x = Edges.made(before);
            ask.call.apply(x);
            change.call.accept(x);
            Subject y = Edges.made(before);
            change.call.accept(y);
            String want = ask.call.apply(y);
            edges.says(change.promise, change.name + " and " + ask.name);
            edges.says(ask.promise, ask.name + " behind " + change.name);
            edges.due("of '" + texts + "'", ask.call.apply(x), want);
        }
    }

    /** Long ones first, so that what is left of them would be seen. */
    private static void betweenOthers() {
        String[] states = {LONG_SHOWN + " , " + LONG_SHOWN + " a", LONG_SHOWN + " a       abbccddeef", DOUBLES,
            "P ,a,b,cQ Q 0R a b", "a b P 0P"};
        List<Ask> asks = asks();
        for (String texts : states) {
            Consumer<Subject> before = Edges.texts(texts.split(" ", -1));
            for (Ask first : asks) {
                for (Ask then : asks) {
                    edges.says(then.promise, then.name + " behind " + first.name);
                    Subject x = Edges.made(before);
                    first.call.apply(x);
                    edges.due("of '" + texts + "'", then.call.apply(x), then.call.apply(Edges.made(before)));
                }
            }
        }
    }
}
