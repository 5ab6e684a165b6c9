import java.util.function.Consumer;

/** The boundary cases of promise 28, and of how long an object may be used. */
public final class DigestEdgesTest {
    private static final Edges edges = new Edges();
    private static final String DOUBLES = ",P,Q,R,S,TU ,,QQ,,RR,,SS,,TT,,UU*";

    public static void main(String[] args) {
        ofNothing();
        ofAll();
        changesNothing();
        leavesOutSheets();
        lastOfUse();
        edges.end("DigestEdgesTest", 28, 28);
    }

    /** By the answers that the words give for an object with no texts. */
    private static void ofNothing() {
        edges.says(28, "nothing typed");
        long h = 17;
        h = takeEach(h, 8, 0);
        h = takeEach(h, 10, -1);
        for (int name = 0; name < 6; name++) {
            h = takeEach(h, 4, name);
        }
        h = take(take(take(take(h, 1), 1), 0), 63);
        h = takeEach(take(h, 0), 15, -1);
        for (int text = 0; text < 8; text++) {
            h = takeEach(h, 4, 0);
            h = takeEach(takeEach(h, 2, 0), 60, -1);
        }
        h = takeEach(h, 4, -3);
        h = take(take(take(take(h, 0), -1), 0), 0);
        for (int unknown = 0; unknown < 6; unknown++) {
            h = takeEach(take(take(h, 1), 'P' + unknown), 59, -1);
            h = take(take(h, 0), 1 << unknown);
        }
        for (int k = 0; k < 24; k++) {
            h = take(take(take(take(h, 0), -1), 0), 0);
        }
        edges.due("digest", new Subject().digest(), take(h, -1));
    }

    private static long take(long h, long answer) {
        return 31 * h + answer;
    }

    private static long takeEach(long h, int times, int answer) {
        long out = h;
        for (int i = 0; i < times; i++) {
            out = take(out, answer);
        }
        return out;
    }

    private static void ofAll() {
        edges.says(28, "each of: count() to spare(); as longs that wrap");
        String full = Edges.full('0', 29);
        String most = Edges.full(',', 14) + Edges.full('P', 15);
        String[] all = {
            full + "a " + full + "P " + full + "Q " + full + "P " + most + " " + most + " " + most + " " + most + " "
                + "aP".repeat(12) + " " + "ab".repeat(11) + "bc",
            DOUBLES + " 000,P,P,P,P,P,P,P,P,Q,Q,ST 000,P,P,P,P,P,P,P,P,Q,Q,ST",
            Edges.full('g', 30), "P a       aP abbccddeef", "P 0P a b   a b", ".ab .ba P 0P !abQ Q R a aRbQ abcdef",
            "P !abP Q 0!bcR R !efR ,ST ,aU aPfUcQ abbcde"};
        for (String texts : all) {
            Subject x = Check.with(texts.split(" ", -1));
            edges.due("digest of " + texts, x.digest(), Digest.of(Check.with(texts.split(" ", -1))));
        }
    }

    private static void changesNothing() {
        edges.says(28, "asking changes nothing");
        Consumer<Subject> before = Edges.texts("P", "a", "Q", ".aR", "", "", "", "", "bQ", "ab");
        String state = Edges.look(before);
        edges.due("state", Edges.look(before.andThen(x -> x.digest())), state);
        Subject x = Edges.made(before);
        x.lose(0);
        long digest = x.digest();
        edges.due("FINDING", x.count(8), 1);
        edges.due("again", x.digest(), digest);
    }

    private static void leavesOutSheets() {
        edges.says(28, "count() 0 to 7: neither the latest FINDING nor SHEETS");
        long digest = Check.with("P", "a").digest();
        for (int finding = 0; finding < 6; finding++) {
            Subject x = Check.with("P", "a");
            x.sheet(0, 0, 60);
            x.sheet(1, 2, 3);
            x.write(0, 0);
            switch (finding) {
                case 1 -> x.lose(3);
                case 2 -> x.get(0, 0, 60);
                case 3 -> x.get(0, 1, 0);
                case 4 -> x.copy(0, 0, 1, 0, 1);
                case 5 -> x.sheet(3, 0, -1);
                default -> x.lay(0, 0, 0, 1);
            }
            edges.due("FINDING", x.count(8), finding);
            edges.due("digest with FINDING " + finding, x.digest(), digest);
        }
    }

    /** The object itself, since the Subject of the other tests is made anew now and then. */
    private static void lastOfUse() {
        edges.says("What it is", "an object is used for at most 512 calls");
        for (String texts : new String[] {"P a", DOUBLES}) {
            SwapNames x = new SwapNames();
            int calls = 0;
            String[] two = texts.split(" ");
            for (int text = 0; text < 2; text++) {
                for (int i = 0; i < two[text].length(); i++) {
                    x.type(text, two[text].charAt(i));
                    calls++;
                }
            }
            long digest = Check.with(two).digest();
            while (calls < 510) {
                edges.due("digest at call " + (calls + 1), x.digest(), digest);
                calls++;
            }
            edges.due("the 511th call", x.type(9, 'a'), 1);
            edges.due("the 512th call", x.count(4), texts.length());
        }
    }
}
