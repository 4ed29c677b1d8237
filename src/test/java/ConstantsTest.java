/** Promises 13 and 14: the constants that are seen in a type, and their values. */
public final class ConstantsTest {
    private static final Check check = new Check();

    public static void main(String[] args) {
        wrongInputs();
        seen();
        several();
        sameByTwoWays();
        check.end();
    }

    private static void wrongInputs() {
        InterfaceRules x = Kinds.with(Kinds.CLASS);
        x.constant(1, 0, 8);
        x.constant(0, 3, 9);
        check.due("sees: no such type", x.sees(2, 0), Kinds.BAD);
        check.due("sees: type -1", x.sees(-1, 0), Kinds.BAD);
        check.due("sees: no such constant", x.sees(1, 4), Kinds.BAD);
        check.due("sees: constant -1", x.sees(1, -1), Kinds.BAD);
        check.due("value: no such type", x.value(2, 0), 0);
        check.due("value: type -1", x.value(-1, 0), 0);
        check.due("value: no such constant", x.value(1, 4), 0);
        check.due("value: constant -1", x.value(1, -1), 0);
        for (int far : Kinds.FAR) {
            check.due("sees: far type", x.sees(far, 0), Kinds.BAD);
            check.due("sees: far constant", x.sees(1, far), Kinds.BAD);
            check.due("value: far type", x.value(far, 0), 0);
            check.due("value: far constant", x.value(1, far), 0);
        }
    }

    private static void seen() {
        InterfaceRules x = Kinds.with(Kinds.FACE, Kinds.CLASS, Kinds.CLASS);
        x.face(2, 1);
        x.extend(3, 2);
        sees("none", x, 3, 0, Kinds.NONE, 0);
        x.constant(1, 0, 17);
        sees("of a face of its SUPER", x, 3, 0, 1, 17);
        sees("of its own", x, 1, 0, 1, 17);
        sees("ROOT sees none", x, 0, 0, Kinds.NONE, 0);
        sees("another constant", x, 3, 1, Kinds.NONE, 0);
        x.constant(0, 1, -1);
        sees("of ROOT", x, 3, 1, 0, -1);
        sees("of ROOT, in a face", x, 1, 1, Kinds.NONE, 0);
        x.constant(3, 0, 0);
        sees("its own, which is 0", x, 3, 0, 3, 0);
    }

    private static void several() {
        InterfaceRules x = Kinds.with(Kinds.FACE, Kinds.FACE, Kinds.FACE, Kinds.CLASS, Kinds.CLASS);
        x.constant(1, 2, 5);
        x.constant(2, 2, 5);
        x.face(3, 1);
        x.face(3, 2);
        sees("several", x, 3, 2, Kinds.NO, 0);
        x.face(4, 3);
        sees("several, handed on", x, 4, 2, Kinds.NO, 0);
        x.face(5, 3);
        x.face(5, 1);
        sees("several, and one of them", x, 5, 2, Kinds.NO, 0);
        x.constant(3, 2, 6);
        sees("one that hides them", x, 4, 2, 3, 6);
        sees("that one, and one that it hides", x, 5, 2, Kinds.NO, 0);
        InterfaceRules y = Kinds.with(Kinds.FACE, Kinds.CLASS);
        y.constant(0, 0, 1);
        y.constant(1, 0, 2);
        y.face(2, 1);
        sees("of SUPER and a face", y, 2, 0, Kinds.NO, 0);
        InterfaceRules z = Kinds.with(Kinds.FACE, Kinds.FACE, Kinds.FACE, Kinds.FACE);
        z.constant(1, 1, 4);
        z.face(4, 2);
        z.face(4, 1);
        z.face(4, 3);
        sees("one among parents that see none", z, 4, 1, 1, 4);
    }

    private static void sameByTwoWays() {
        InterfaceRules x = Kinds.with(Kinds.FACE, Kinds.FACE, Kinds.FACE, Kinds.CLASS);
        x.face(2, 1);
        x.face(3, 1);
        x.face(4, 2);
        x.face(4, 3);
        x.constant(1, 3, 12);
        sees("one by two ways", x, 4, 3, 1, 12);
        x.constant(2, 3, 13);
        sees("two by two ways", x, 4, 3, Kinds.NO, 0);
    }

    private static void sees(String what, InterfaceRules x, int t, int c, int home, int value) {
        check.due("sees: " + what, x.sees(t, c), home);
        check.due("value: " + what, x.value(t, c), value);
    }
}
