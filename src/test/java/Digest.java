/** The digest by the document's words, over the answers of an object's other calls. */
final class Digest {
    private long h = 17;

    private void take(long answer) {
        h = 31 * h + answer;
    }

    static long of(Subject x) {
        Digest d = new Digest();
        for (int what = 0; what <= 7; what++) {
            d.take(x.count(what));
        }
        for (int text = 0; text <= 9; text++) {
            d.take(x.fault(text));
        }
        for (int name = 0; name <= 5; name++) {
            d.take(x.turn(name, 0));
            d.take(x.turn(name, 1));
            d.take(x.power(name, 2));
            d.take(x.power(name, -3));
        }
        for (int what = 0; what <= 3; what++) {
            d.take(x.rounds(what));
        }
        for (int i = -1; i <= 14; i++) {
            d.take(x.shows(i));
        }
        for (int text = 0; text <= 7; text++) {
            for (int what = 0; what <= 3; what++) {
                d.take(x.term(text, what));
            }
            for (int i = -1; i <= 29; i++) {
                d.take(x.shown(text, i));
                d.take(x.turned(text, i));
            }
        }
        for (int equation = 0; equation <= 3; equation++) {
            d.take(x.alike(equation));
        }
        for (int what = 0; what <= 3; what++) {
            d.take(x.solved(what));
        }
        for (int unknown = 0; unknown <= 5; unknown++) {
            for (int i = -1; i <= 59; i++) {
                d.take(x.value(unknown, i));
            }
            d.take(x.fresh(unknown));
            d.take(x.needs(unknown));
        }
        for (int k = 0; k <= 23; k++) {
            for (int what = 0; what <= 3; what++) {
                d.take(x.way(k, what));
            }
        }
        d.take(x.spare());
        return d.h;
    }
}
