/** Refused calls change nothing, FINDINGS nothing but count() 8; asking changes nothing either. */
public final class RefusalTest {
    private static final Check check = new Check();

    public static void main(String[] args) {
        Subject x = Check.with(",PQ", ",aR", "000000000000000000000000000000", "", "S", "!abS", "", "", "aPbQaPbQaPbQaPbQaPbQaPbQ", "ab");
        x.sheet(0, 0, 3);
        x.sheet(1, 1, 2);
        x.lay(0, 0, 1, 77);
        x.lay(1, 1, 1, 1077);
        String before = look(x);
        refuse(x);
        check.due("count 8 after BAD, NOT, FULL", x.count(8), 0);
        check.due("state after BAD, NOT, FULL", look(x), before);
        find(x);
        check.due("count 8 after FINDINGS", x.count(8), 5);
        check.due("state after FINDINGS", look(x), before);
        check.end("RefusalTest");
    }

    private static String look(Subject x) {
        StringBuilder out = new StringBuilder();
        out.append(x.digest());
        for (int i = 0; i < 3; i++) {
            out.append(' ').append(x.get(0, 0, i));
        }
        for (int i = 0; i < 2; i++) {
            out.append(' ').append(x.get(1, 1, i));
        }
        return out.append(' ').append(x.count(4)).toString();
    }

    private static void refuse(Subject x) {
        check.due("type BAD", x.type(10, 0), -2);
        check.due("type BAD byte", x.type(0, 256), -2);
        check.due("type FULL", x.type(2, 97), -4);
        check.due("type FULL", x.type(8, 97), -4);
        check.due("wipe BAD", x.wipe(10), -2);
        check.due("undo BAD", x.undo(10), -2);
        check.due("undo NOT", x.undo(3), -3);
        check.due("read BAD", x.read(10, 0), -2);
        check.due("read BAD sheet", x.read(0, 4), -2);
        check.due("alike NOT", x.alike(1), -3);
        check.due("alike BAD", x.alike(4), -2);
        check.due("sheet BAD", x.sheet(0, 0, 61), -2);
        check.due("sheet BAD form", x.sheet(0, 3, 1), -2);
        check.due("lose BAD", x.lose(4), -2);
        check.due("lay BAD", x.lay(0, 3, 1, 5), -2);
        check.due("get BAD", x.get(0, 3, 1), Integer.MIN_VALUE);
        check.due("copy BAD", x.copy(0, 0, 4, 0, 1), -2);
        check.due("write BAD", x.write(6, 0), -2);
    }

    private static void find(Subject x) {
        check.due("read NULL", x.read(0, 2), -11);
        check.due("lose NULL", x.lose(2), -11);
        check.due("write NULL", x.write(0, 2), -11);
        check.due("lay CAST", x.lay(0, 1, 1, 5), -13);
        check.due("lay INDEX", x.lay(0, 0, 3, 5), -12);
        check.due("copy STORE", x.copy(0, 0, 1, 0, 1), -14);
        check.due("copy INDEX", x.copy(0, 2, 0, 0, 2), -12);
        check.due("count 8", x.count(8), 2);
        check.due("sheet SIZE", x.sheet(0, 0, -1), -15);
    }
}
