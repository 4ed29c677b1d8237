/** Promises 9, 10, 12 and 15: what a type has and runs, faces of one abstract member, and ancestors. */
public final class LookupTest {
    private static final Check check = new Check();

    public static void main(String[] args) {
        wrongInputs();
        ownAndGiven();
        notHandedOn();
        lostToClass();
        notLostToStatic();
        lostToDescendant();
        orderOfParents();
        runsReasons();
        followsChanges();
        functional();
        functionalResults();
        below();
        check.end();
    }

    private static void wrongInputs() {
        InterfaceRules x = Kinds.with(Kinds.CLASS, Kinds.FACE);
        x.member(1, 9, Kinds.BODY, 0);
        int[] wrong = {-1, 3, 16, 17, Kinds.NONE};
        for (int t : wrong) {
            check.due("has: type " + t, x.has(t, 0, Kinds.NONE), Kinds.BAD);
            check.due("runs: type " + t, x.runs(t, 0), Kinds.BAD);
            check.due("functional: type " + t, x.functional(t), Kinds.BAD);
            check.due("below: type " + t, x.below(t, 0), Kinds.BAD);
            check.due("below: of type " + t, x.below(0, t), Kinds.BAD);
        }
        for (int far : Kinds.FAR) {
            check.due("has: far type", x.has(far, 0, Kinds.NONE), Kinds.BAD);
            check.due("has: far name", x.has(1, far, Kinds.NONE), Kinds.BAD);
            check.due("has: far i", x.has(1, 0, far), Kinds.BAD);
            check.due("runs: far type", x.runs(far, 0), Kinds.BAD);
            check.due("runs: far name", x.runs(1, far), Kinds.BAD);
            check.due("functional: far", x.functional(far), Kinds.BAD);
            check.due("below: far", x.below(far, 0), Kinds.BAD);
            check.due("below: of far", x.below(0, far), Kinds.BAD);
        }
        check.due("has: name 10", x.has(1, 10, Kinds.NONE), Kinds.BAD);
        check.due("has: name -1", x.has(1, -1, Kinds.NONE), Kinds.BAD);
        check.due("has: i 1 of 1", x.has(1, 9, 1), Kinds.BAD);
        check.due("has: i -1", x.has(1, 9, -1), Kinds.BAD);
        check.due("has: i 0 of none", x.has(2, 9, 0), Kinds.BAD);
        check.due("runs: name 10", x.runs(1, 10), Kinds.BAD);
        check.due("runs: name -1", x.runs(1, -1), Kinds.BAD);
        check.due("functional: ROOT", x.functional(0), Kinds.BAD);
        check.due("functional: a class", x.functional(1), Kinds.BAD);
    }

    private static void ownAndGiven() {
        InterfaceRules x = Kinds.with(Kinds.OPEN, Kinds.CLASS, Kinds.FACE);
        x.extend(2, 1);
        x.member(1, 4, Kinds.BODY, 0);
        check.has("has: a SUPER's", x, 2, 4, 3);
        check.due("runs: a SUPER's", x.runs(2, 4), 3);
        x.member(2, 4, Kinds.BODY, 0);
        check.has("has: its own alone", x, 2, 4, 4);
        check.has("has: the SUPER its own", x, 1, 4, 3);
        check.has("has: ROOT's", x, 2, 0, 0);
        for (int name = 0; name < 3; name++) {
            check.has("has: FACES have nothing of ROOT's", x, 3, name);
            check.due("runs: FACES run nothing of ROOT's", x.runs(3, name), -5);
        }
    }

    private static void notHandedOn() {
        InterfaceRules x = Kinds.with(Kinds.CLASS, Kinds.FACE, Kinds.FACE, Kinds.CLASS);
        x.extend(4, 1);
        x.face(4, 2);
        x.face(3, 2);
        x.member(1, 3, Kinds.PRIVATE, 0);
        x.member(2, 4, Kinds.PRIVATE, 0);
        x.member(2, 5, Kinds.STATIC, 0);
        x.member(1, 6, Kinds.STATIC, 0);
        x.member(1, 7, Kinds.FINAL, 0);
        check.has("given: no PRIVATE of a class", x, 4, 3);
        check.has("given: no PRIVATE of a face", x, 4, 4);
        check.has("given: no STATIC of a face", x, 4, 5);
        check.has("given: no STATIC of a face to a face", x, 3, 5);
        check.has("given: STATIC of a class", x, 4, 6, 6);
        check.has("given: FINAL", x, 4, 7, 7);
        check.has("has: own PRIVATE", x, 1, 3, 3);
        check.has("has: own PRIVATE of a face", x, 2, 4, 4);
        check.has("has: own STATIC of a face", x, 2, 5, 5);
        check.due("runs: no PRIVATE", x.runs(1, 3), -5);
        check.due("runs: no STATIC", x.runs(4, 6), -5);
        check.due("runs: no STATIC of a face", x.runs(2, 5), -5);
        check.due("runs: FINAL", x.runs(4, 7), 7);
    }

    private static void lostToClass() {
        InterfaceRules x = Kinds.with(Kinds.FACE, Kinds.OPEN, Kinds.CLASS, Kinds.FACE);
        x.extend(3, 2);
        x.face(3, 1);
        for (int name = 3; name < 6; name++) {
            x.member(1, name, Kinds.BODY, 0);
        }
        x.member(2, 3, Kinds.BODY, 0);
        x.member(2, 4, Kinds.FINAL, 0);
        x.member(2, 5, Kinds.ABSTRACT, 0);
        x.member(1, 0, Kinds.ABSTRACT, 0);
        check.has("lost: to a class's BODY", x, 3, 3, 6);
        check.has("lost: to a class's FINAL", x, 3, 4, 7);
        check.has("not lost: to a class's ABSTRACT", x, 3, 5, 8, 5);
        check.has("lost: to ROOT's", x, 3, 0, 0);
        check.due("runs: a class's ABSTRACT and a BODY", x.runs(3, 5), -7);
    }

    private static void notLostToStatic() {
        InterfaceRules x = Kinds.with(Kinds.FACE, Kinds.CLASS, Kinds.CLASS);
        x.extend(3, 2);
        x.face(3, 1);
        x.member(1, 3, Kinds.BODY, 0);
        x.member(2, 3, Kinds.STATIC, 0);
        check.has("not lost: to a class's STATIC", x, 3, 3, 4, 3);
        check.due("runs: STATIC ones apart", x.runs(3, 3), 3);
    }

    private static void lostToDescendant() {
        InterfaceRules x = Kinds.with(Kinds.FACE, Kinds.FACE, Kinds.FACE, Kinds.OPEN, Kinds.CLASS);
        x.face(2, 1);
        x.face(3, 1);
        x.member(1, 3, Kinds.BODY, 0);
        x.member(2, 3, Kinds.ABSTRACT, 0);
        x.face(5, 1);
        x.face(5, 2);
        check.has("lost: to a face below", x, 5, 3, 4);
        check.due("runs: the face below is ABSTRACT", x.runs(5, 3), -7);
        x.face(5, 3);
        check.has("lost: given by two, once", x, 5, 3, 4);
        x.member(4, 3, Kinds.ABSTRACT, 0);
        x.extend(5, 4);
        check.has("not lost: a class not below", x, 5, 3, 5, 4);
        x.face(4, 2);
        check.has("lost: to a class below, through two steps", x, 5, 3, 5);
    }

    private static void orderOfParents() {
        InterfaceRules x = Kinds.with(Kinds.FACE, Kinds.FACE, Kinds.FACE, Kinds.OPEN, Kinds.CLASS);
        for (int t = 1; t <= 4; t++) {
            x.member(t, 3, Kinds.ABSTRACT, 0);
        }
        x.face(5, 3);
        x.face(5, 1);
        x.face(5, 2);
        check.has("has: faces in their order", x, 5, 3, 5, 3, 4);
        x.extend(5, 4);
        check.has("has: the SUPER first", x, 5, 3, 6, 5, 3, 4);
        InterfaceRules y = Kinds.with(Kinds.FACE, Kinds.FACE, Kinds.FACE, Kinds.FACE, Kinds.CLASS);
        for (int t = 1; t <= 3; t++) {
            y.member(t, 3, Kinds.ABSTRACT, 0);
        }
        y.face(4, 2);
        y.face(4, 1);
        y.face(5, 1);
        y.face(5, 4);
        y.face(5, 3);
        check.has("has: each once, where it came first", y, 5, 3, 3, 4, 5);
    }

    private static void runsReasons() {
        InterfaceRules x = Kinds.with(Kinds.FACE, Kinds.FACE, Kinds.FACE, Kinds.OPEN);
        x.member(1, 3, Kinds.ABSTRACT, 0);
        x.member(2, 3, Kinds.BODY, 0);
        check.due("runs: a face's BODY alone", x.runs(2, 3), 4);
        check.due("runs: ABSTRACT alone", x.runs(1, 3), -7);
        check.due("runs: none", x.runs(1, 4), -5);
        x.face(3, 1);
        check.due("runs: given ABSTRACT alone", x.runs(3, 3), -7);
        x.face(3, 2);
        check.due("runs: ABSTRACT and BODY of faces", x.runs(3, 3), -6);
        x.member(1, 5, Kinds.BODY, 0);
        x.member(2, 5, Kinds.BODY, 0);
        check.due("runs: two BODIES", x.runs(3, 5), -6);
        x.member(1, 6, Kinds.ABSTRACT, 0);
        x.member(2, 6, Kinds.ABSTRACT, 0);
        check.due("runs: two ABSTRACT ones", x.runs(3, 6), -7);
        x.member(4, 7, Kinds.ABSTRACT, 0);
        check.due("runs: own ABSTRACT of a class", x.runs(4, 7), -7);
        x.member(4, 8, Kinds.BODY, 0);
        check.due("runs: own BODY of a class", x.runs(4, 8), 10);
        x.type(Kinds.CLASS);
        x.extend(5, 4);
        x.face(5, 1);
        x.face(5, 2);
        x.member(2, 7, Kinds.BODY, 0);
        x.member(1, 7, Kinds.BODY, 0);
        check.has("has: two BODIES and a class's ABSTRACT", x, 5, 7, 9, 12, 11);
        check.due("runs: an ABSTRACT one of a class is no CLASH", x.runs(5, 7), -7);
    }

    private static void followsChanges() {
        InterfaceRules x = Kinds.with(Kinds.FACE, Kinds.CLASS, Kinds.CLASS, Kinds.CLASS);
        x.extend(4, 3);
        check.due("changes: none yet", x.runs(4, 3), -5);
        x.member(1, 3, Kinds.BODY, 0);
        check.due("changes: not its face", x.runs(4, 3), -5);
        x.face(2, 1);
        x.extend(3, 2);
        check.due("changes: through SUPER and its face", x.runs(4, 3), 3);
        x.member(2, 3, Kinds.BODY, 0);
        check.due("changes: the SUPER's SUPER has its own", x.runs(4, 3), 4);
        x.extend(4, 0);
        check.due("changes: no longer", x.runs(4, 3), -5);
        for (int name = 0; name < 3; name++) {
            check.due("changes: no type 5 yet", x.runs(4, name), name);
        }
        x.type(Kinds.CLASS);
        for (int name = 0; name < 3; name++) {
            check.due("changes: a new class has ROOT's", x.runs(5, name), name);
        }
    }

    private static void functional() {
        InterfaceRules x = Kinds.with(Kinds.FACE, Kinds.FACE, Kinds.FACE);
        check.due("functional: none", x.functional(1), Kinds.NONE);
        x.member(1, 0, Kinds.ABSTRACT, 0);
        x.member(1, 1, Kinds.ABSTRACT, 0);
        x.member(1, 2, Kinds.ABSTRACT, 0);
        check.due("functional: ROOT's names do not count", x.functional(1), Kinds.NONE);
        x.member(1, 3, Kinds.ABSTRACT, 2);
        check.due("functional: name 3", x.functional(1), 6);
        x.member(1, 4, Kinds.BODY, 0);
        x.member(1, 5, Kinds.STATIC, 0);
        x.member(1, 6, Kinds.PRIVATE, 0);
        check.due("functional: others may be there", x.functional(1), 6);
        x.member(1, 9, Kinds.ABSTRACT, 0);
        check.due("functional: two names", x.functional(1), Kinds.NONE);
        x.face(2, 1);
        check.due("functional: two given names", x.functional(2), Kinds.NONE);
        x.member(2, 3, Kinds.BODY, 2);
        check.due("functional: one is done", x.functional(2), 10);
        x.face(3, 2);
        check.due("functional: given", x.functional(3), 10);
        x.member(3, 9, Kinds.STATIC, 0);
        check.due("functional: none left", x.functional(3), Kinds.NONE);
    }

    private static void functionalResults() {
        InterfaceRules x = Kinds.with(Kinds.FACE, Kinds.FACE, Kinds.FACE, Kinds.FACE, Kinds.FACE, Kinds.FACE);
        x.member(1, 9, Kinds.ABSTRACT, 0);
        x.member(2, 9, Kinds.ABSTRACT, 1);
        x.member(3, 9, Kinds.ABSTRACT, 3);
        x.member(4, 9, Kinds.ABSTRACT, 3);
        x.member(5, 9, Kinds.BODY, 3);
        x.face(6, 1);
        x.face(6, 2);
        check.due("functional: 1 SERVES for 0", x.functional(6), 4);
        x.face(6, 3);
        check.due("functional: 3 SERVES for 1", x.functional(6), 5);
        x.face(6, 4);
        check.due("functional: the first that SERVES", x.functional(6), 5);
        x.type(Kinds.FACE);
        x.face(7, 6);
        check.due("functional: handed on", x.functional(7), 5);
        x.face(7, 5);
        check.due("functional: a BODY among these", x.functional(7), Kinds.NONE);
        InterfaceRules y = Kinds.with(Kinds.FACE, Kinds.FACE, Kinds.FACE);
        y.member(1, 8, Kinds.ABSTRACT, 3);
        y.member(2, 8, Kinds.ABSTRACT, 2);
        y.face(3, 1);
        y.face(3, 2);
        check.due("functional: none SERVES", y.functional(3), Kinds.NONE);
    }

    private static void below() {
        InterfaceRules x = Kinds.with(Kinds.FACE, Kinds.FACE, Kinds.OPEN, Kinds.CLASS, Kinds.FACE);
        x.face(2, 1);
        x.face(3, 2);
        x.extend(4, 3);
        check.due("below: itself", x.below(4, 4), 1);
        check.due("below: ROOT itself", x.below(0, 0), 1);
        check.due("below: its SUPER", x.below(4, 3), 1);
        check.due("below: a face of its SUPER", x.below(4, 2), 1);
        check.due("below: a face's face", x.below(4, 1), 1);
        check.due("below: not the other way", x.below(1, 4), 0);
        check.due("below: no relation", x.below(4, 5), 0);
        check.due("below: ROOT for classes", x.below(4, 0), 1);
        check.due("below: ROOT for faces", x.below(5, 0), 1);
        check.due("below: ROOT is below none", x.below(0, 1), 0);
        x.extend(4, 0);
        check.due("below: no longer", x.below(4, 1), 0);
    }
}
