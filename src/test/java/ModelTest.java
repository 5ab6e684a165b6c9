import java.util.Arrays;
import java.util.Random;

/** Runs of calls, made at random from fixed seeds, answered by the class and by the model alike. */
public final class ModelTest {
    private static final Check check = new Check();
    private static final int RUNS = 3000;
    private static final int[] wild = {-1, -2, 6, 60, 61, 255, 256, Integer.MIN_VALUE, Integer.MAX_VALUE, 65536 + 97, -3, 4, 24, 30};

    private final Random random;
    private final Subject x = new Subject();
    private final Model m = new Model();
    private int namesUsed;
    private int unknownsUsed;
    private static final int[] whys = new int[5];
    private static int alikes = 0;

    private ModelTest(long seed) {
        random = new Random(seed);
        namesUsed = 2 + random.nextInt(5);
        unknownsUsed = 1 + random.nextInt(6);
    }

    public static void main(String[] args) {
        for (int seed = 0; seed < RUNS; seed++) {
            new ModelTest(seed).run(seed);
        }
        System.out.println("WHY " + Arrays.toString(whys) + ", ALIKE " + alikes);
        for (int why = 0; why < 4; why++) {
            check.due("runs with WHY " + why + " are enough", whys[why] > RUNS / 40 ? 1 : 0, 1);
        }
        check.due("there are LONG runs", whys[4] > 0 ? 1 : 0, 1);
        check.due("there are ALIKE ones", alikes > RUNS / 40 ? 1 : 0, 1);
        check.end("ModelTest");
    }

    private void run(int seed) {
        fill(seed);
        for (int i = 0; i < 40; i++) {
            call(seed, i);
            if (i % 13 == 12) {
                lookAtAll(seed);
            }
        }
    }

    private void fill(int seed) {
        int first = 0;
        if (seed % 50 == 7) {
            type(0, ",P,Q,R,S,TU");
            type(1, ",,QQ,,RR,,SS,,TT,,UU" + term(8));
            type(2, ",P,P,P,P,P,P,P,P,Q" + unknown());
            type(3, ",P,P,P,P,P,P,P,P,Q" + unknown());
            first = 2;
        }
        int equations = first + 1 + random.nextInt(4 - first);
        for (int e = first; e < equations; e++) {
            String left = term(1 + random.nextInt(28));
            String right = random.nextInt(3) == 0 ? term(1 + random.nextInt(28)) : like(left);
            boolean isTurned = random.nextBoolean();
            type(2 * e, isTurned ? right : left);
            type(2 * e + 1, isTurned ? left : right);
        }
        for (int i = random.nextInt(7); i > 0; i--) {
            type(8, "" + name() + unknown());
        }
        for (int i = random.nextInt(8); i > 0; i--) {
            type(9, "" + name() + name());
        }
        lookAtAll(seed);
    }

    private char name() {
        return (char) ('a' + random.nextInt(namesUsed));
    }

    private char unknown() {
        return (char) ('P' + random.nextInt(unknownsUsed));
    }

    private String term(int room) {
        int kind = random.nextInt(12);
        if (room < 2 || kind < 1) {
            return "" + (kind < 7 ? unknown() : kind < 11 ? name() : '*');
        }
        if (kind < 3) {
            return (char) ('0' + random.nextInt(2)) + term(room - 1);
        }
        if (kind < 8 && room >= 3) {
            int first = 1 + random.nextInt(room - 2);
            String one = term(first);
            return "," + one + term(room - 1 - one.length());
        }
        if (kind < 10 && room >= 3) {
            return "." + name() + term(room - 2);
        }
        return room >= 4 ? "!" + name() + name() + term(room - 3) : "" + name();
    }

    /** A TERM that may well be made ALIKE: some NAMES swapped all through, some places made UNKNOWNS. */
    private String like(String bytes) {
        char one = name();
        char other = name();
        StringBuilder out = new StringBuilder();
        boolean isSwapped = random.nextBoolean();
        boolean isOpened = random.nextBoolean();
        int fixed = 0;
        for (int i = 0; i < bytes.length(); i++) {
            char b = bytes.charAt(i);
            boolean isLeaf = fixed == 0 && (b >= 'a' && b <= 'f' || b >= 'P' && b <= 'U');
            if (isSwapped && (b == one || b == other)) {
                b = b == one ? other : one;
            }
            fixed = Math.max(0, fixed - 1);
            fixed = b == '.' ? 1 : b == '!' ? 2 : fixed;
            out.append(isLeaf && isOpened && random.nextInt(3) == 0 ? unknown() : b);
        }
        return out.toString();
    }

    private void type(int text, String bytes) {
        for (int i = 0; i < bytes.length(); i++) {
            check.due("type", x.type(text, bytes.charAt(i)), m.type(text, bytes.charAt(i)));
        }
    }

    private int number(int bound) {
        return random.nextInt(12) == 0 ? wild[random.nextInt(wild.length)] : random.nextInt(bound);
    }

    private int place() {
        return random.nextInt(3) == 0 ? -1 : number(60);
    }

    private int someByte() {
        int kind = random.nextInt(8);
        return kind == 0 ? number(256) : kind < 3 ? unknown() : kind < 6 ? name() : ".,!*01234".charAt(random.nextInt(9));
    }

    private void call(int seed, int i) {
        int a = number(4);
        int b = number(10);
        int c = number(3);
        int d = place();
        int e = number(6);
        int f = number(60);
        int g = someByte();
        int what = random.nextInt(34);
        String call = "seed " + seed + " call " + i + " kind " + what;
        switch (what) {
            case 0, 1 -> check.due(call, x.type(b, g), m.type(b, g));
            case 2 -> check.due(call, x.wipe(b), m.wipe(b));
            case 3, 4 -> check.due(call, x.undo(b), m.undo(b));
            case 5 -> check.due(call, x.fault(b), m.fault(b));
            case 6, 7 -> check.due(call, x.read(b, a), m.read(b, a));
            case 8 -> check.due(call, x.turn(e, c), m.turn(e, c));
            case 9 -> check.due(call, x.power(e, f - 30), m.power(e, f - 30));
            case 10 -> check.due(call, x.power(e, random(seed + i)), m.power(e, random(seed + i)));
            case 11 -> check.due(call, x.rounds(a), m.rounds(a));
            case 12 -> check.due(call, x.shows(d), m.shows(d));
            case 13 -> check.due(call, x.term(b, a), m.term(b, a));
            case 14 -> check.due(call, x.shown(b, d), m.shown(b, d));
            case 15 -> check.due(call, x.turned(b, d), m.turned(b, d));
            case 16 -> check.due(call, x.alike(a), m.alike(a));
            case 17 -> check.due(call, x.solved(a), m.solved(a));
            case 18 -> check.due(call, x.value(e, d), m.value(e, d));
            case 19 -> check.due(call, x.fresh(e), m.fresh(e));
            case 20 -> check.due(call, x.needs(e), m.needs(e));
            case 21 -> check.due(call, x.way(f % 26, a), m.way(f % 26, a));
            case 22 -> check.due(call, x.spare(), m.spare());
            case 23, 24 -> check.due(call, x.sheet(a, c, f), m.sheet(a, c, f));
            case 25 -> check.due(call, x.lose(a), m.lose(a));
            case 26, 27 -> check.due(call, x.lay(a, c, b, g), m.lay(a, c, b, g));
            case 28 -> check.due(call, x.lay(a, c, b, f * 7919), m.lay(a, c, b, f * 7919));
            case 29 -> check.due(call, x.get(a, c, b), m.get(a, c, b));
            case 30 -> check.due(call, x.copy(a, b, e % 4, f % 10, c + 1), m.copy(a, b, e % 4, f % 10, c + 1));
            case 31, 32 -> check.due(call, x.write(e, a), m.write(e, a));
            default -> check.due(call, x.count(b), m.count(b));
        }
    }

    private static int random(int seed) {
        return new Random(seed).nextInt();
    }

    private void lookAtAll(int seed) {
        String call = "seed " + seed + " ";
        whys[m.solved(0)]++;
        for (int equation = 0; equation < 4; equation++) {
            alikes += m.alike(equation) == 1 ? 1 : 0;
        }
        for (int what = 0; what < 9; what++) {
            check.due(call + "count " + what, x.count(what), m.count(what));
        }
        for (int text = 0; text < 10; text++) {
            check.due(call + "fault " + text, x.fault(text), m.fault(text));
        }
        for (int name = 0; name < 6; name++) {
            check.due(call + "turn " + name, x.turn(name, 0), m.turn(name, 0));
            check.due(call + "turn back " + name, x.turn(name, 1), m.turn(name, 1));
            check.due(call + "power " + name, x.power(name, -3), m.power(name, -3));
        }
        for (int what = 0; what < 4; what++) {
            check.due(call + "rounds " + what, x.rounds(what), m.rounds(what));
            check.due(call + "solved " + what, x.solved(what), m.solved(what));
            check.due(call + "alike " + what, x.alike(what), m.alike(what));
        }
        check.due(call + "shows", Check.shows(x), Model.showTurn(m.theTurn()));
        for (int text = 0; text < 8; text++) {
            for (int what = 0; what < 4; what++) {
                check.due(call + "term " + text + " " + what, x.term(text, what), m.term(text, what));
            }
            int t = text;
            check.due(call + "shown " + text, Check.shown(x, text), Check.told(i -> m.shown(t, i)));
            check.due(call + "turned " + text, Check.turned(x, text), Check.told(i -> m.turned(t, i)));
        }
        for (int unknown = 0; unknown < 6; unknown++) {
            check.due(call + "value " + unknown, Check.value(x, unknown), m.valueOf(unknown));
            check.due(call + "fresh " + unknown, x.fresh(unknown), m.fresh(unknown));
            check.due(call + "needs " + unknown, x.needs(unknown), m.needs(unknown));
        }
        for (int k = 0; k < 24; k++) {
            Model.Solving way = m.new Solving(Model.orders().get(k));
            for (int what = 0; what < 4; what++) {
                check.due(call + "way " + k + " " + what, x.way(k, what), way.tell(what));
            }
        }
        check.due(call + "spare", x.spare(), m.spare());
        check.due(call + "digest", x.digest(), Digest.of(x));
        for (int s = 0; s < 4; s++) {
            for (int i = 0; m.sheets[s] != null && i < m.sheets[s].length; i++) {
                check.due(call + "item", x.get(s, m.forms[s], i), m.sheets[s][i]);
            }
        }
    }
}
