import java.util.Set;
import java.util.TreeSet;
import java.util.function.Consumer;
import java.util.function.ToIntFunction;

/** Answers held under the sentence of the document that asks for them; looks at all that a refused call could change. */
final class Edges {
    static final int LEAST = Integer.MIN_VALUE;
    static final int MOST = Integer.MAX_VALUE;
    /** An earlier FINDING that no refused call may take away: SIZE. */
    private static final int EARLIER = 5;

    private final Check check = new Check();
    private final Set<Integer> named = new TreeSet<>();
    private String sentence = "";

    void says(int promise, String words) {
        named.add(promise);
        says("Promise " + promise, words);
    }

    void says(String heading, String words) {
        sentence = heading + ", '" + words + "': ";
    }

    void due(String call, long got, long want) {
        check.due(sentence + call, got, want);
    }

    void due(String call, String got, String want) {
        check.due(sentence + call, got, want);
    }

    /** All of these promises must have been named. */
    void end(String test, int first, int last) {
        Set<Integer> all = new TreeSet<>();
        for (int promise = first; promise <= last; promise++) {
            all.add(promise);
        }
        check.due("promises named", named.toString(), all.toString());
        check.end(test);
    }

    /** Numbers that are none of 0 to bound - 1, from both sides of it on. */
    static int[] outside(int bound) {
        return new int[] {-1, bound, -2, bound + 1, LEAST, LEAST + 1, MOST - 1, MOST};
    }

    static Subject made(Consumer<Subject> before) {
        Subject x = new Subject();
        before.accept(x);
        return x;
    }

    static Consumer<Subject> texts(String... texts) {
        return x -> {
            for (int text = 0; text < texts.length; text++) {
                Check.type(x, text, texts[text]);
            }
        };
    }

    static String full(char b, int length) {
        return String.valueOf(b).repeat(length);
    }

    /** BAD, NOT, FULL: nothing is changed by it, neither the latest FINDING. */
    void refused(Consumer<Subject> before, String call, ToIntFunction<Subject> act, int answer) {
        held(before, call, act, answer, 0, 0);
        held(before.andThen(x -> x.sheet(0, 0, -1)), call, act, answer, EARLIER, EARLIER);
    }

    /** A FINDING: nothing is changed by it but count() 8. */
    void found(Consumer<Subject> before, String call, ToIntFunction<Subject> act, int finding) {
        found(before, call, act, finding, -10 - finding);
    }

    void found(Consumer<Subject> before, String call, ToIntFunction<Subject> act, int finding, int answer) {
        held(before, call, act, answer, 0, finding);
        held(before.andThen(x -> x.sheet(0, 0, -1)), call, act, answer, EARLIER, finding);
    }

    /** A call that only asks: it answers as due and changes nothing at all. */
    void asked(Consumer<Subject> before, String call, ToIntFunction<Subject> act, int answer) {
        refused(before, call, act, answer);
    }

    private void held(Consumer<Subject> before, String call, ToIntFunction<Subject> act, int answer, int earlier, int then) {
        Subject x = made(before);
        due(call + ": FINDING before", x.count(8), earlier);
        due(call, act.applyAsInt(x), answer);
        due(call + ": FINDING then", x.count(8), then);
        due(call + ": answered again", act.applyAsInt(x), answer);
        due(call + ": state then", look(before.andThen(act::applyAsInt)), look(before));
    }

    /** All that can be told of an object but its latest FINDING; each part is told by an object of its own. */
    static String look(Consumer<Subject> before) {
        StringBuilder out = new StringBuilder();
        for (int text = 0; text < 10; text++) {
            lookAtText(made(before), text, out);
        }
        for (int s = 0; s < 4; s++) {
            lookAtSheet(made(before), s, out);
            out.append(made(before).lose(s)).append(';');
        }
        return out.toString();
    }

    /** Its bytes, one by one from the last, by what is told with and without each. */
    private static void lookAtText(Subject x, int text, StringBuilder out) {
        int left = 1;
        while (left >= 0) {
            out.append(x.count(4)).append(' ').append(x.fault(text)).append(' ').append(x.digest()).append(',');
            left = x.undo(text);
        }
        out.append(left).append(';');
    }

    private static void lookAtSheet(Subject x, int s, StringBuilder out) {
        for (int form = 0; form < 3; form++) {
            x.sheet(0, 0, -1);
            out.append(x.get(s, form, 0)).append(' ').append(x.count(8)).append(',');
            for (int i = 0; x.count(8) == EARLIER && i < 60; i++) {
                out.append(x.get(s, form, i)).append(',');
            }
        }
        out.append(';');
    }
}
