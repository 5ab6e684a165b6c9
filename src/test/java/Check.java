import java.util.function.IntUnaryOperator;

/** Counts answers that are not as due, and says which. */
final class Check {
    private int asked = 0;
    private int wrong = 0;

    void due(String call, long got, long want) {
        asked++;
        if (got != want) {
            wrong++;
            System.out.println(call + " answered " + got + ", due is " + want);
        }
    }

    void due(String call, String got, String want) {
        asked++;
        if (!got.equals(want)) {
            wrong++;
            System.out.println(call + " answered '" + got + "', due is '" + want + "'");
        }
    }

    void end(String test) {
        System.out.println(test + ": " + asked + " answers, " + wrong + " not as due");
        if (wrong != 0 || asked == 0) {
            System.exit(1);
        }
    }

    /** A new object with texts 0, 1, 2 and so on typed. */
    static Subject with(String... texts) {
        Subject x = new Subject();
        for (int text = 0; text < texts.length; text++) {
            type(x, text, texts[text]);
        }
        return x;
    }

    static void type(Subject x, int text, String bytes) {
        for (int i = 0; i < bytes.length(); i++) {
            x.type(text, bytes.charAt(i));
        }
    }

    static void retype(Subject x, int text, String bytes) {
        x.wipe(text);
        type(x, text, bytes);
    }

    /** All bytes that a call tells one by one, as a text; places behind its end must answer NONE. */
    static String told(IntUnaryOperator call) {
        StringBuilder out = new StringBuilder();
        int length = call.applyAsInt(-1);
        for (int i = 0; i < 60; i++) {
            int b = call.applyAsInt(i);
            if (i < length) {
                out.append((char) b);
            } else if (b != -1) {
                out.append("?").append(b);
            }
        }
        return out.toString();
    }

    static String shows(Subject x) {
        return told(x::shows);
    }

    static String shown(Subject x, int text) {
        return told(i -> x.shown(text, i));
    }

    static String turned(Subject x, int text) {
        return told(i -> x.turned(text, i));
    }

    static String value(Subject x, int unknown) {
        return told(i -> x.value(unknown, i));
    }
}
