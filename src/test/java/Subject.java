import java.util.ArrayList;
import java.util.List;
import java.util.function.Consumer;

/**
 * The class under test, with its face. What an object answers behind its 512th call is free, so none is asked more
 * often: ahead of the 513th call a new object is brought to where the old one was.
 */
final class Subject {
    private static final int MOST_CALLS = 512;

    private SwapNames x = new SwapNames();
    private final List<Consumer<SwapNames>> changes = new ArrayList<>();
    private int calls = 0;

    private SwapNames ask() {
        if (calls == MOST_CALLS) {
            if (changes.size() >= MOST_CALLS) {
                throw new IllegalStateException("a test makes more changes than an object has calls");
            }
            x = new SwapNames();
            changes.forEach(change -> change.accept(x));
            calls = changes.size();
        }
        calls++;
        return x;
    }

    private int change(IntCall call) {
        int answer = call.on(ask());
        changes.add(call::on);
        return answer;
    }

    private interface IntCall {
        int on(SwapNames x);
    }

    int type(int text, int b) {
        return change(x -> x.type(text, b));
    }

    int wipe(int text) {
        return change(x -> x.wipe(text));
    }

    int undo(int text) {
        return change(x -> x.undo(text));
    }

    int fault(int text) {
        return ask().fault(text);
    }

    int read(int text, int s) {
        return change(x -> x.read(text, s));
    }

    int turn(int name, int what) {
        return ask().turn(name, what);
    }

    int power(int name, int k) {
        return ask().power(name, k);
    }

    int rounds(int what) {
        return ask().rounds(what);
    }

    int shows(int i) {
        return ask().shows(i);
    }

    int term(int text, int what) {
        return ask().term(text, what);
    }

    int shown(int text, int i) {
        return ask().shown(text, i);
    }

    int turned(int text, int i) {
        return ask().turned(text, i);
    }

    int alike(int equation) {
        return ask().alike(equation);
    }

    int solved(int what) {
        return ask().solved(what);
    }

    int value(int unknown, int i) {
        return ask().value(unknown, i);
    }

    int fresh(int unknown) {
        return ask().fresh(unknown);
    }

    int needs(int unknown) {
        return ask().needs(unknown);
    }

    int way(int k, int what) {
        return ask().way(k, what);
    }

    int spare() {
        return ask().spare();
    }

    int sheet(int s, int form, int n) {
        return change(x -> x.sheet(s, form, n));
    }

    int lose(int s) {
        return change(x -> x.lose(s));
    }

    int lay(int s, int form, int i, int v) {
        return change(x -> x.lay(s, form, i, v));
    }

    int get(int s, int form, int i) {
        int answer = ask().get(s, form, i);
        if (answer == Integer.MIN_VALUE) {
            changes.add(x -> x.get(s, form, i));
        }
        return answer;
    }

    int copy(int s, int i, int t, int j, int n) {
        return change(x -> x.copy(s, i, t, j, n));
    }

    int write(int unknown, int s) {
        return change(x -> x.write(unknown, s));
    }

    int count(int what) {
        return ask().count(what);
    }

    long digest() {
        return ask().digest();
    }
}
