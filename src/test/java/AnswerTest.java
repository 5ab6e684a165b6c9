import java.util.ArrayList;
import java.util.List;
import java.util.Random;

/**
 * What an answer means, by the class alone: VALUES are put in for UNKNOWNS as bytes (behind a SWAP they are under it),
 * and alike() tells whether the EQUATIONS hold. Model is not asked, so a misreading of SOLVING that both share could
 * show here; one of ALIKE itself, or of how many STEPS there are, could not.
 */
public final class AnswerTest {
    private static final Check check = new Check();
    private static final int RUNS = 6000;
    private static final String[] GROUND = {"a", "b", "c", "*", "0a", ".aa", ".ab", ".ba", ".bc", ",ab", ",ba", ",a*"};

    private static int answers = 0;
    private static int noAnswers = 0;
    private static int needed = 0;
    private static int found = 0;

    private final Random random;
    private final String[] texts = {"", "", "", "", "", "", "", "", ""};
    private final String named;

    private AnswerTest(int seed) {
        random = new Random(seed);
        named = "seed " + seed + " ";
    }

    public static void main(String[] args) {
        for (int seed = 0; seed < RUNS; seed++) {
            new AnswerTest(seed).run();
        }
        System.out.println(answers + " answers, " + noAnswers + " without, " + needed + " NAMES that must be FRESH, " + found + " ground answers");
        check.due("there are answers", answers > RUNS / 10 ? 1 : 0, 1);
        check.due("there are some without", noAnswers > RUNS / 10 ? 1 : 0, 1);
        check.due("there are NAMES that must be FRESH", needed > RUNS / 10 ? 1 : 0, 1);
        check.due("there are ground answers", found > RUNS / 10 ? 1 : 0, 1);
        check.end("AnswerTest");
    }

    private void run() {
        make();
        Subject x = Check.with(texts);
        boolean isAnswered = x.solved(0) == 0;
        check.due(named + "is not LONG", x.solved(0) == 4 ? 1 : 0, 0);
        everyOrder(x, isAnswered);
        leftOut(x, isAnswered);
        if (isAnswered) {
            answers++;
            holds(x);
        } else {
            noAnswers++;
        }
        groundAnswers(isAnswered);
    }

    private void make() {
        int equations = 1 + random.nextInt(3);
        for (int e = 0; e < equations; e++) {
            texts[2 * e] = term(4);
            texts[2 * e + 1] = random.nextInt(3) == 0 ? term(4) : texts[2 * e].replace(name(), name()).replace(name(), unknown());
            // A NAME that is bound or swapped may have become an UNKNOWN: then the LEFT is taken again.
            if (Check.with(texts[2 * e + 1]).fault(0) != -1) {
                texts[2 * e + 1] = texts[2 * e];
            }
        }
        for (int i = random.nextInt(3); i > 0; i--) {
            texts[8] += "" + name() + unknown();
        }
    }

    private char name() {
        return (char) ('a' + random.nextInt(3));
    }

    private char unknown() {
        return (char) ('P' + random.nextInt(2));
    }

    private String term(int depth) {
        switch (depth < 2 ? random.nextInt(3) : random.nextInt(9)) {
            case 0:
                return "" + name();
            case 1:
                return "" + unknown();
            case 2:
                return random.nextInt(4) == 0 ? "*" : "" + unknown();
            case 3:
                return "0" + term(depth - 1);
            case 4:
                return "!" + name() + name() + term(depth - 1);
            case 5, 6:
                return "." + name() + term(depth - 1);
            default:
                return "," + term(depth - 2) + term(depth - 1);
        }
    }

    /** 'the same in every order': whether there is an answer, and how many UNKNOWNS stay without a VALUE. */
    private void everyOrder(Subject x, boolean isAnswered) {
        for (int k = 0; k < 24; k++) {
            check.due(named + "there is an answer by way " + k, x.way(k, 0) == 0 ? 1 : 0, isAnswered ? 1 : 0);
            if (isAnswered) {
                check.due(named + "VALUES by way " + k, x.way(k, 3), x.solved(3));
            }
        }
    }

    /** 'which equation had better not be': a new object without it tells the same. */
    private void leftOut(Subject x, boolean isAnswered) {
        int least = -1;
        for (int e = 3; e >= 0 && !isAnswered; e--) {
            String[] less = texts.clone();
            less[2 * e] = "";
            least = Check.with(less).solved(0) == 0 ? e : least;
        }
        check.due(named + "spare", x.spare(), least);
    }

    /** With VALUES put in, and with what must be FRESH told as FRESH, all EQUATIONS are ALIKE; with less they are not. */
    private void holds(Subject x) {
        String[] values = new String[6];
        List<String> fresh = new ArrayList<>();
        for (int u = 0; u < 6; u++) {
            values[u] = Check.value(x, u);
            for (int n = 0; n < 6; n++) {
                if ((x.fresh(u) >> n & 1) != 0) {
                    fresh.add("" + (char) ('a' + n) + (char) ('P' + u));
                }
            }
        }
        String[] whole = withValues(values);
        if (whole == null) {
            return;
        }
        check.due(named + "all ALIKE", isAllAlike(whole, values, String.join("", fresh)) ? 1 : 0, 1);
        for (String one : fresh) {
            List<String> less = new ArrayList<>(fresh);
            less.remove(one);
            needed++;
            check.due(named + "ALIKE without " + one, isAllAlike(whole, values, String.join("", less)) ? 1 : 0, 0);
        }
    }

    /** The TERMS of all EQUATIONS with these put in for UNKNOWNS; null if one is too long for a text, or for isFresh. */
    private String[] withValues(String[] values) {
        for (String value : values) {
            if (value.length() > 27) {
                return null;
            }
        }
        String[] whole = new String[8];
        for (int text = 0; text < 8; text++) {
            StringBuilder out = new StringBuilder();
            for (char b : texts[text].toCharArray()) {
                out.append(b >= 'P' && b <= 'U' ? values[b - 'P'] : "" + b);
            }
            if (out.length() > 30) {
                return null;
            }
            whole[text] = out.toString();
        }
        return whole;
    }

    /** Also what FRESH says must hold, of the VALUES. */
    private boolean isAllAlike(String[] whole, String[] values, String fresh) {
        Subject x = Check.with(whole);
        Check.type(x, 8, fresh);
        for (int e = 0; e < 4; e++) {
            if (x.alike(e) == 0) {
                return false;
            }
        }
        for (int i = 0; i < texts[8].length(); i += 2) {
            if (!isFresh(texts[8].charAt(i), values[texts[8].charAt(i + 1) - 'P'], fresh)) {
                return false;
            }
        }
        return true;
    }

    /** As f is in no TERM here, and told FRESH in all UNKNOWNS, the SWAP of n and f changes only what n is not FRESH in. */
    private static boolean isFresh(char n, String value, String fresh) {
        Subject x = Check.with("!" + n + "f" + value, value);
        Check.type(x, 8, fresh + "fPfQfRfSfTfU");
        check.due("f is told FRESH", x.fault(0) + x.fault(1) + x.fault(8), -3);
        return x.alike(0) == 1;
    }

    /** An answer without UNKNOWNS, found by trying, is one: there must be no CLASH, LOOP, BOUND. */
    private void groundAnswers(boolean isAnswered) {
        String[] values = {"", "", "R", "S", "T", "U"};
        for (int i = 0; i < 12; i++) {
            values[0] = GROUND[random.nextInt(GROUND.length)];
            values[1] = GROUND[random.nextInt(GROUND.length)];
            String[] whole = withValues(values);
            if (whole != null && isAllAlike(whole, values, "")) {
                found++;
                check.due(named + "there is an answer: " + values[0] + " " + values[1], isAnswered ? 1 : 0, 1);
            }
        }
    }
}
