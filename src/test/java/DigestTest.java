import java.util.HashSet;
import java.util.Set;

/** Promise 28: digest. */
public final class DigestTest {
    private static final Check check = new Check();

    public static void main(String[] args) {
        fixedOnes();
        byTheWords();
        eachTextTells();
        sheetsDoNotTell();
        check.end("DigestTest");
    }

    /** Written down once, so that a change of what is told, or of its order, is seen. */
    private static void fixedOnes() {
        Subject two = Check.with(".aa", ".bb", ".a.b,ab", ".b.a,ba", "P", "!abP", "P", "b");
        check.due("digest of BOUND", two.digest(), -4710714878197079991L);
        Subject five = Check.with(",aP");
        check.due("digest of one TERM", five.digest(), -4782547144296980453L);
    }

    private static void byTheWords() {
        String[] all = {"", "P a", "a b", "P 0P", "P a       aP", "g", ",PQ ,aR Q .a!bcS T ,ST U 0R fPbQ abbcdeef",
            ".a,aP .b,bQ 0P 0!ab,cR       abbcde", ",P,Q,R,S,TU ,,QQ,,RR,,SS,,TT,,UU* ,P,P,P,P,P,P,P,P,PP ,P,P,P,P,P,P,P,P,PP"};
        for (String texts : all) {
            Subject x = Check.with(texts.split(" ", -1));
            long digest = x.digest();
            check.due("digest of " + texts, digest, Digest.of(Check.with(texts.split(" ", -1))));
            check.due("digest again of " + texts, x.digest(), digest);
        }
    }

    private static void eachTextTells() {
        Set<Long> seen = new HashSet<>();
        for (int text = 0; text < 10; text++) {
            for (String bytes : new String[] {"a", "gg", "aba"}) {
                Subject x = new Subject();
                Check.type(x, text, bytes);
                seen.add(x.digest());
            }
        }
        seen.add(new Subject().digest());
        check.due("unlike digests", seen.size(), 31);
    }

    private static void sheetsDoNotTell() {
        Subject x = Check.with("P", "a");
        long digest = x.digest();
        x.sheet(0, 0, 5);
        x.lay(0, 0, 0, 9);
        x.lose(3);
        x.write(0, 0);
        check.due("finding", x.count(8), 1);
        check.due("digest with SHEETS", x.digest(), digest);
    }
}
