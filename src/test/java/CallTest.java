/** Promises 16 and 17: what a call on an object runs, or why it stops, and what is kept of the latest one. */
public final class CallTest {
    private static final Check check = new Check();

    public static void main(String[] args) {
        wrongInputs();
        latestStays();
        stopsAtOnce();
        thisCalls();
        superCalls();
        faceCalls();
        staticCalls();
        noObjectInStatics();
        deep();
        stopsBehindTheThirtieth();
        check.end();
    }

    private static void wrongInputs() {
        InterfaceRules x = Kinds.with(Kinds.CLASS, Kinds.OPEN, Kinds.FACE);
        check.due("latest: there was none", x.latest(0), Kinds.BAD);
        check.due("latest: none entered", x.latest(1), Kinds.BAD);
        check.due("latest: no last", x.latest(2), Kinds.BAD);
        check.due("call: an open class", x.call(2, 0), Kinds.BAD);
        check.due("call: a face", x.call(3, 0), Kinds.BAD);
        check.due("call: no such type", x.call(4, 0), Kinds.BAD);
        check.due("call: type -1", x.call(-1, 0), Kinds.BAD);
        check.due("call: name 10", x.call(1, 10), Kinds.BAD);
        check.due("call: name -1", x.call(1, -1), Kinds.BAD);
        for (int far : Kinds.FAR) {
            check.due("call: far type", x.call(far, 0), Kinds.BAD);
            check.due("call: far name", x.call(1, far), Kinds.BAD);
        }
        check.due("latest: a BAD one is none", x.latest(0), Kinds.BAD);
        check.call("call: on ROOT", x, 0, 1, 0, 0, 1, 1);
        check.call("call: ROOT's on another", x, 1, 2, 0, 0, 1, 2);
        for (int what : new int[] {-1, 3, Kinds.NONE, Integer.MIN_VALUE, Integer.MAX_VALUE}) {
            check.due("latest: wrong", x.latest(what), Kinds.BAD);
        }
    }

    private static void latestStays() {
        InterfaceRules x = Kinds.with(Kinds.CLASS);
        x.does(0, 5, Kinds.THIS, 0, 1);
        check.call("latest: two", x, 1, 0, 5, 0, 2, 1);
        x.call(9, 9);
        check.latest("latest: a BAD call changes nothing", x, 0, 2, 1);
        x.runs(1, 9);
        x.does(0, 0, 0, 0, 0);
        x.type(Kinds.CLASS);
        check.latest("latest: other calls change nothing", x, 0, 2, 1);
        check.call("latest: anew", x, 1, 7, 0, Kinds.MISSING, 0, Kinds.NONE);
    }

    private static void stopsAtOnce() {
        InterfaceRules x = Kinds.with(Kinds.FACE, Kinds.FACE, Kinds.CLASS);
        x.face(3, 1);
        x.face(3, 2);
        x.member(1, 3, Kinds.BODY, 0);
        x.member(2, 3, Kinds.BODY, 0);
        x.member(2, 4, Kinds.ABSTRACT, 0);
        x.member(3, 5, Kinds.PRIVATE, 0);
        x.member(3, 6, Kinds.STATIC, 0);
        check.call("stops: CLASH", x, 3, 3, 0, Kinds.CLASH, 0, Kinds.NONE);
        check.call("stops: UNDONE", x, 3, 4, 0, Kinds.UNDONE, 0, Kinds.NONE);
        check.call("stops: PRIVATE is MISSING", x, 3, 5, 0, Kinds.MISSING, 0, Kinds.NONE);
        check.call("stops: STATIC is MISSING", x, 3, 6, 0, Kinds.MISSING, 0, Kinds.NONE);
        check.call("stops: MISSING", x, 3, 7, 0, Kinds.MISSING, 0, Kinds.NONE);
    }

    private static void thisCalls() {
        InterfaceRules x = Kinds.with(Kinds.CLASS, Kinds.CLASS);
        x.extend(2, 1);
        x.member(1, 3, Kinds.BODY, 0);
        x.member(1, 4, Kinds.BODY, 0);
        x.member(2, 4, Kinds.BODY, 0);
        x.does(3, 1, Kinds.THIS, 0, 4);
        x.does(4, 10, 0, 0, 0);
        x.does(5, 100, 0, 0, 0);
        check.call("THIS: on the class", x, 1, 3, 11, 0, 2, 4);
        check.call("THIS: on the class below", x, 2, 3, 101, 0, 2, 5);
        InterfaceRules y = Kinds.with(Kinds.CLASS, Kinds.CLASS);
        y.extend(2, 1);
        y.member(1, 3, Kinds.BODY, 0);
        y.member(1, 4, Kinds.PRIVATE, 0);
        y.member(2, 4, Kinds.BODY, 0);
        y.does(3, 1, Kinds.THIS, 0, 4);
        y.does(4, -20, Kinds.THIS, 0, 5);
        y.does(5, 100, 0, 0, 0);
        check.call("THIS: the type's own PRIVATE one", y, 2, 3, -19, Kinds.MISSING, 2, 4);
        y.does(5, 100, Kinds.THIS, 0, 3);
        check.call("THIS: from below to a PRIVATE one", y, 2, 4, 81, Kinds.MISSING, 3, 4);
        InterfaceRules z = Kinds.with(Kinds.CLASS, Kinds.CLASS);
        z.extend(2, 1);
        z.member(1, 3, Kinds.BODY, 0);
        z.member(1, 4, Kinds.BODY, 0);
        z.member(2, 4, Kinds.PRIVATE, 0);
        z.does(3, 1, Kinds.THIS, 0, 4);
        check.call("THIS: a PRIVATE one of another type", z, 2, 3, 1, Kinds.MISSING, 1, 3);
        InterfaceRules w = Kinds.with(Kinds.CLASS);
        w.member(1, 3, Kinds.BODY, 0);
        w.member(1, 4, Kinds.STATIC, 0);
        w.does(3, 1, Kinds.THIS, 0, 4);
        check.call("THIS: a STATIC one", w, 1, 3, 1, Kinds.MISSING, 1, 3);
    }

    private static void superCalls() {
        InterfaceRules x = Kinds.with(Kinds.CLASS, Kinds.OPEN, Kinds.CLASS, Kinds.FACE, Kinds.CLASS);
        x.extend(2, 1);
        x.extend(3, 2);
        x.extend(5, 3);
        x.member(1, 3, Kinds.BODY, 0);
        x.member(2, 3, Kinds.BODY, 0);
        x.does(3, 1, 0, 0, 0);
        x.does(4, 2, Kinds.SUPER, 0, 3);
        check.call("SUPER: of the member's type", x, 5, 3, 3, 0, 2, 3);
        x.member(2, 4, Kinds.ABSTRACT, 0);
        x.member(3, 4, Kinds.BODY, 0);
        x.does(6, 7, Kinds.SUPER, 0, 4);
        check.call("SUPER: UNDONE", x, 3, 4, 7, Kinds.UNDONE, 1, 6);
        x.does(6, 7, Kinds.SUPER, 0, 9);
        check.call("SUPER: MISSING", x, 3, 4, 7, Kinds.MISSING, 1, 6);
        x.member(4, 8, Kinds.BODY, 0);
        x.face(5, 4);
        x.does(7, 9, Kinds.SUPER, 0, 0);
        check.call("SUPER: in a face", x, 5, 8, 9, Kinds.MISSING, 1, 7);
        x.does(0, 4, Kinds.SUPER, 0, 1);
        check.call("SUPER: in ROOT", x, 5, 0, 4, Kinds.MISSING, 1, 0);
    }

    private static void faceCalls() {
        InterfaceRules x = Kinds.with(Kinds.FACE, Kinds.FACE, Kinds.FACE, Kinds.CLASS);
        x.member(1, 3, Kinds.BODY, 0);
        x.member(2, 3, Kinds.BODY, 0);
        x.member(2, 4, Kinds.ABSTRACT, 0);
        x.face(3, 1);
        x.face(3, 2);
        x.face(4, 2);
        x.member(4, 3, Kinds.BODY, 0);
        x.does(3, 1, Kinds.THIS, 0, 9);
        x.does(4, 2, 0, 0, 0);
        x.does(6, 4, Kinds.BY_FACE, 2, 3);
        check.call("FACE: of its faces", x, 4, 3, 6, 0, 2, 4);
        x.does(6, 4, Kinds.BY_FACE, 1, 3);
        check.call("FACE: of others, too", x, 4, 3, 5, Kinds.MISSING, 2, 3);
        x.does(6, 4, Kinds.BY_FACE, 3, 3);
        check.call("FACE: CLASH", x, 4, 3, 4, Kinds.CLASH, 1, 6);
        x.does(6, 4, Kinds.BY_FACE, 2, 4);
        check.call("FACE: UNDONE", x, 4, 3, 4, Kinds.UNDONE, 1, 6);
        x.does(6, 4, Kinds.BY_FACE, 2, 0);
        check.call("FACE: MISSING", x, 4, 3, 4, Kinds.MISSING, 1, 6);
        x.member(4, 9, Kinds.BODY, 0);
        x.does(6, 4, Kinds.BY_FACE, 1, 3);
        x.does(7, 8, 0, 0, 0);
        check.call("FACE: the object stays the same", x, 4, 3, 13, 0, 3, 7);
    }

    private static void staticCalls() {
        InterfaceRules x = Kinds.with(Kinds.FACE, Kinds.FACE, Kinds.CLASS, Kinds.CLASS, Kinds.CLASS);
        x.face(2, 1);
        x.extend(4, 3);
        x.face(4, 1);
        x.member(1, 3, Kinds.STATIC, 0);
        x.member(3, 4, Kinds.STATIC, 0);
        x.member(3, 5, Kinds.BODY, 0);
        x.member(5, 6, Kinds.BODY, 0);
        x.does(3, 1, 0, 0, 0);
        x.does(4, 2, 0, 0, 0);
        x.does(6, 10, Kinds.BY_STATIC, 1, 3);
        check.call("STATIC: of a face", x, 5, 6, 11, 0, 2, 3);
        x.does(6, 10, Kinds.BY_STATIC, 2, 3);
        check.call("STATIC: not handed on to a face", x, 5, 6, 10, Kinds.MISSING, 1, 6);
        x.does(6, 10, Kinds.BY_STATIC, 4, 3);
        check.call("STATIC: not handed on to a class", x, 5, 6, 10, Kinds.MISSING, 1, 6);
        x.does(6, 10, Kinds.BY_STATIC, 4, 4);
        check.call("STATIC: handed on by a class", x, 5, 6, 12, 0, 2, 4);
        x.does(6, 10, Kinds.BY_STATIC, 3, 5);
        check.call("STATIC: a BODY is none", x, 5, 6, 10, Kinds.MISSING, 1, 6);
        x.member(4, 4, Kinds.BODY, 0);
        x.does(6, 10, Kinds.BY_STATIC, 4, 4);
        check.call("STATIC: behind an own BODY", x, 5, 6, 10, Kinds.MISSING, 1, 6);
    }

    private static void noObjectInStatics() {
        InterfaceRules x = Kinds.with(Kinds.FACE, Kinds.CLASS);
        x.member(1, 3, Kinds.BODY, 0);
        x.face(2, 1);
        x.member(2, 4, Kinds.BODY, 0);
        x.member(2, 5, Kinds.STATIC, 0);
        x.member(2, 6, Kinds.STATIC, 0);
        x.member(2, 7, Kinds.PRIVATE, 0);
        x.does(4, 1, Kinds.BY_STATIC, 2, 5);
        x.does(6, 100, 0, 0, 0);
        x.does(5, 10, Kinds.BY_STATIC, 2, 6);
        check.call("no object: STATIC from STATIC", x, 2, 4, 111, 0, 3, 6);
        x.does(5, 10, Kinds.THIS, 0, 3);
        check.call("no object: THIS", x, 2, 4, 11, Kinds.MISSING, 2, 5);
        x.does(5, 10, Kinds.THIS, 0, 7);
        check.call("no object: THIS, PRIVATE", x, 2, 4, 11, Kinds.MISSING, 2, 5);
        x.does(5, 10, Kinds.SUPER, 0, 0);
        check.call("no object: SUPER", x, 2, 4, 11, Kinds.MISSING, 2, 5);
        x.does(5, 10, Kinds.BY_FACE, 1, 3);
        check.call("no object: FACE", x, 2, 4, 11, Kinds.MISSING, 2, 5);
    }

    private static void deep() {
        InterfaceRules x = Kinds.with(Kinds.CLASS);
        x.member(1, 3, Kinds.STATIC, 0);
        x.member(1, 4, Kinds.BODY, 0);
        x.does(4, -1000, Kinds.BY_STATIC, 1, 3);
        x.does(3, 1000, Kinds.BY_STATIC, 1, 3);
        check.call("DEEP: 30 are entered", x, 1, 4, 28000, Kinds.DEEP, 30, 3);
        x.does(4, 1000, Kinds.THIS, 0, 4);
        check.call("DEEP: most", x, 1, 4, 30000, Kinds.DEEP, 30, 4);
        x.does(4, -1000, Kinds.THIS, 0, 4);
        check.call("DEEP: least", x, 1, 4, -30000, Kinds.DEEP, 30, 4);
        x.does(0, 2, Kinds.THIS, 0, 0);
        check.call("DEEP: member 0", x, 0, 0, 60, Kinds.DEEP, 30, 0);
    }

    private static void stopsBehindTheThirtieth() {
        InterfaceRules x = chainOf(30);
        check.call("DEEP: not with 30", x, 3, 0, 30, 0, 30, 32);
        x.does(32, 5, Kinds.THIS, 0, 0);
        check.call("DEEP: with 31", x, 3, 0, 34, Kinds.DEEP, 30, 32);
        x.does(32, 5, Kinds.SUPER, 0, 9);
        check.call("DEEP: not if none would be entered", x, 3, 0, 34, Kinds.MISSING, 30, 32);
    }

    /** Members 3, 4, .. of classes 3, 2 and 1, by THIS and SUPER in one chain, each of which adds 1. */
    private static InterfaceRules chainOf(int length) {
        InterfaceRules x = Kinds.with(Kinds.CLASS, Kinds.CLASS, Kinds.CLASS);
        x.extend(2, 1);
        x.extend(3, 2);
        for (int k = 0; k < length; k++) {
            int m = x.member(3 - k % 3, k / 3, Kinds.BODY, 0);
            if (k < length - 1) {
                x.does(m, 1, k % 3 == 2 ? Kinds.THIS : Kinds.SUPER, 0, (k + 1) / 3);
            } else {
                x.does(m, 1, 0, 0, 0);
            }
        }
        return x;
    }
}
