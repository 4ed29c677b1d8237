/** Promises 9, 10 and 12 to 15, sentence by sentence: the last that is allowed, the first that isn't, empty and full. */
public final class AskEdgesTest {
    private static final Check check = new Check();
    private static final Refusals fresh = new Refusals(check, Worlds::fresh);
    private static final Refusals mixed = new Refusals(check, Worlds::mixed);
    private static final Refusals full = new Refusals(check, Worlds::full);
    private static final int[] NO_TYPES = {-1, 9, 15, 16, Kinds.NONE};

    public static void main(String[] args) {
        hasTypesAndNames();
        hasNoneSuch();
        hasOfAnEmptyName();
        hasTheMost();
        hasEachOnce();
        hasFewerThanBefore();
        hasNoStaticAnyMore();
        runsTypesAndNames();
        runsMissing();
        runsOneAlone();
        runsClash();
        runsUndone();
        functionalFaces();
        functionalNames();
        functionalOnlyOne();
        functionalBodyAmongThese();
        functionalServes();
        seesTypes();
        seesConstants();
        seesNoneOneSeveral();
        seesItself();
        valueWithoutOne();
        belowTypes();
        belowItselfAndRoot();
        belowTheLongestChain();
        check.end();
    }

    private static void hasTypesAndNames() {
        check.about("Promise 9: BAD: no such type, NAME");
        check.due("ROOT, NAME 0", new InterfaceRules().has(0, 0, Kinds.NONE), 1);
        check.due("the last type, NAME 9", Worlds.mixed().has(8, 9, Kinds.NONE), 0);
        check.due("the last type of all", Worlds.full().has(15, 3, 0), 17);
        for (int t : NO_TYPES) {
            mixed.due("of " + t, x -> x.has(t, 3, Kinds.NONE), Kinds.BAD);
            mixed.due("the first of " + t, x -> x.has(t, 3, 0), Kinds.BAD);
        }
        for (int name : new int[] {-1, 10, 11, Kinds.NONE}) {
            mixed.due("NAME " + name, x -> x.has(6, name, Kinds.NONE), Kinds.BAD);
            mixed.due("the first of NAME " + name, x -> x.has(6, name, 0), Kinds.BAD);
        }
        for (int far : Kinds.FAR) {
            mixed.due("of " + far, x -> x.has(far, 3, Kinds.NONE), Kinds.BAD);
            mixed.due("NAME " + far, x -> x.has(6, far, Kinds.NONE), Kinds.BAD);
        }
    }

    private static void hasNoneSuch() {
        check.about("Promise 9: BAD: also none such");
        check.has("two of 8's NAME 7 are one", Worlds.mixed(), 8, 7, 8);
        // NONE is -4: the numbers on both sides of it are no places.
        for (int i : new int[] {-6, -5, -3, -2, -1, 1, 2, 16}) {
            mixed.due("place " + i + " of one", x -> x.has(8, 7, i), Kinds.BAD);
        }
        for (int far : Kinds.FAR) {
            mixed.due("place " + far + " of one", x -> x.has(8, 7, far), Kinds.BAD);
        }
    }

    private static void hasOfAnEmptyName() {
        check.about("Promise 9: how many, of none");
        for (int t : new int[] {0, 1, 4, 5, 7}) {
            InterfaceRules x = Kinds.with(2, 2, 2, 1, 0, 0, 2, 0);
            check.due("how many of " + t, x.has(t, 9, Kinds.NONE), 0);
            check.due("the first of " + t, x.has(t, 9, 0), Kinds.BAD);
        }
    }

    /** Twelve leaves of NAME 3 below type 15: 1 and 2 .. 5 by class 13, 6 .. 9 by class 14, 10 .. 12 by itself. */
    private static InterfaceRules twelveLeaves() {
        InterfaceRules x = Kinds.with(1, 2, 2, 2, 2, 2, 2, 2, 2, 2, 2, 2, 1, 1, 0);
        x.extend(13, 1);
        x.extend(14, 13);
        x.extend(15, 14);
        for (int t = 1; t <= 12; t++) {
            x.member(t, 3, Kinds.ABSTRACT, 0);
        }
        for (int f = 2; f <= 12; f++) {
            x.face(f <= 5 ? 13 : f <= 9 ? 14 : 15, f);
        }
        return x;
    }

    private static void hasTheMost() {
        check.about("Promise 9: the i-th, of the most that 16 types can give");
        InterfaceRules x = twelveLeaves();
        check.has("twelve", x, 15, 3, 3, 4, 5, 6, 7, 8, 9, 10, 11, 12, 13, 14);
        check.has("nine", x, 14, 3, 3, 4, 5, 6, 7, 8, 9, 10, 11);
        check.due("UNDONE", x.runs(15, 3), -7);
        check.faults("UNDONE", x, 15, 8, 3);
        x.member(15, 3, Kinds.BODY, 0);
        check.has("its own alone", x, 15, 3, 15);
        check.faults("nothing is against it", x, 15);
    }

    private static void hasEachOnce() {
        check.about("Terms 3: GIVEN, each once");
        InterfaceRules x = twelveLeaves();
        check.due("a FACE that its SUPER has, too", x.face(15, 2), 4);
        check.has("still twelve", x, 15, 3, 3, 4, 5, 6, 7, 8, 9, 10, 11, 12, 13, 14);
        x.member(15, 3, Kinds.PRIVATE, 0);
        check.due("a FAULT for each", x.faults(15, Kinds.NONE, 0), 12);
    }

    private static void hasFewerThanBefore() {
        check.about("Promise 9: how many, behind a change that takes one away");
        InterfaceRules x = Kinds.with(Kinds.FACE, Kinds.FACE, Kinds.FACE, Kinds.FACE);
        x.member(1, 3, Kinds.ABSTRACT, 0);
        x.member(2, 3, Kinds.ABSTRACT, 2);
        x.member(3, 3, Kinds.ABSTRACT, 1);
        x.face(4, 3);
        x.face(4, 1);
        x.face(4, 2);
        check.has("three", x, 4, 3, 5, 3, 4);
        check.due("none SERVES for all", x.functional(4), Kinds.NONE);
        x.face(3, 2);
        check.has("two: one is LOST", x, 4, 3, 5, 3);
        check.due("1 SERVES for 0", x.functional(4), 5);
        check.faults("nothing is against it any more", x, 4);
    }

    private static void hasNoStaticAnyMore() {
        check.about("Promise 9: how many, behind a change that takes the only one away");
        InterfaceRules x = Kinds.with(Kinds.CLASS, Kinds.CLASS, Kinds.CLASS);
        x.member(1, 3, Kinds.STATIC, 0);
        x.member(3, 4, Kinds.BODY, 0);
        x.does(4, 1, Kinds.BY_STATIC, 2, 3);
        x.extend(2, 1);
        check.has("its SUPER's", x, 2, 3, 3);
        check.call("it is entered", x, 3, 4, 1, 0, 2, 3);
        x.extend(2, 0);
        check.has("none", x, 2, 3);
        check.call("it is MISSING", x, 3, 4, 1, Kinds.MISSING, 1, 4);
        check.faults("that is against the caller", x, 3, 12, 4);
    }

    private static void runsTypesAndNames() {
        check.about("Promise 10: BAD");
        check.due("ROOT, NAME 0", new InterfaceRules().runs(0, 0), 0);
        check.due("ROOT, NAME 9", new InterfaceRules().runs(0, 9), -5);
        check.due("the last type", Worlds.mixed().runs(8, 0), 0);
        for (int t : NO_TYPES) {
            mixed.due("of " + t, x -> x.runs(t, 0), Kinds.BAD);
        }
        for (int name : new int[] {-1, 10, 11, Kinds.NONE}) {
            mixed.due("NAME " + name, x -> x.runs(6, name), Kinds.BAD);
        }
        for (int far : Kinds.FAR) {
            mixed.due("of " + far, x -> x.runs(far, 0), Kinds.BAD);
            mixed.due("NAME " + far, x -> x.runs(6, far), Kinds.BAD);
        }
    }

    private static void runsMissing() {
        check.about("Promise 10: 1 MISSING (there is none)");
        InterfaceRules x = Kinds.with(Kinds.FACE, Kinds.CLASS);
        x.face(2, 1);
        check.due("none in a FACE", x.runs(1, 3), -5);
        check.due("none in a class", x.runs(2, 3), -5);
        x.member(1, 3, Kinds.PRIVATE, 0);
        x.member(2, 4, Kinds.STATIC, 0);
        check.due("a PRIVATE one is apart", x.runs(1, 3), -5);
        check.due("a STATIC one is apart", x.runs(2, 4), -5);
    }

    private static void runsOneAlone() {
        check.about("Terms 3: RUNS: one alone and it is a BODY");
        InterfaceRules x = Kinds.with(Kinds.FACE, Kinds.FACE, Kinds.CLASS, Kinds.CLASS);
        x.member(1, 3, Kinds.BODY, 0);
        x.member(3, 3, Kinds.STATIC, 0);
        x.extend(4, 3);
        x.face(4, 1);
        check.has("a STATIC one and a BODY", x, 4, 3, 4, 3);
        check.due("the BODY is alone without the STATIC one", x.runs(4, 3), 3);
        x.member(2, 3, Kinds.BODY, 0);
        x.face(4, 2);
        check.has("a STATIC one and two BODIES", x, 4, 3, 4, 3, 5);
        check.due("two are a CLASH", x.runs(4, 3), -6);
    }

    private static void runsClash() {
        check.about("Promise 10: 2 CLASH (two or more, a BODY among them)");
        int[] sorts = {Kinds.ABSTRACT, Kinds.BODY};
        for (int a : sorts) {
            for (int b : sorts) {
                InterfaceRules x = Kinds.with(Kinds.FACE, Kinds.FACE, Kinds.FACE);
                x.member(1, 3, a, 0);
                x.member(2, 3, b, 0);
                x.face(3, 1);
                check.due("one alone, " + a, x.runs(3, 3), a == Kinds.BODY ? 3 : -7);
                x.face(3, 2);
                check.due("two, " + a + " and " + b, x.runs(3, 3), a == Kinds.BODY || b == Kinds.BODY ? -6 : -7);
            }
        }
    }

    private static void runsUndone() {
        check.about("Promise 10: 3 UNDONE (else)");
        InterfaceRules x = Kinds.with(Kinds.FACE, Kinds.FACE, Kinds.OPEN, Kinds.OPEN);
        x.member(3, 3, Kinds.ABSTRACT, 0);
        x.extend(4, 3);
        check.due("one ABSTRACT one of a class", x.runs(4, 3), -7);
        x.member(1, 3, Kinds.BODY, 0);
        x.face(4, 1);
        check.due("with a BODY of a FACE", x.runs(4, 3), -7);
        x.member(2, 3, Kinds.BODY, 0);
        x.face(4, 2);
        check.due("with two", x.runs(4, 3), -7);
    }

    private static void functionalFaces() {
        check.about("Promise 12: BAD: no FACE");
        check.due("the least FACE", Worlds.mixed().functional(1), 3);
        check.due("the last FACE", Worlds.mixed().functional(7), Kinds.NONE);
        for (int f : new int[] {-1, 0, 4, 5, 6, 8, 9, 16, Kinds.NONE}) {
            mixed.due("of " + f, x -> x.functional(f), Kinds.BAD);
        }
        fresh.due("of ROOT", x -> x.functional(0), Kinds.BAD);
        for (int far : Kinds.FAR) {
            mixed.due("of " + far, x -> x.functional(far), Kinds.BAD);
        }
    }

    private static void functionalNames() {
        check.about("Promise 12: of NAMES 3 .. 9");
        for (int name = 0; name <= 9; name++) {
            InterfaceRules x = Kinds.with(Kinds.FACE);
            x.member(1, name, Kinds.ABSTRACT, 1);
            check.due("NAME " + name, x.functional(1), name >= 3 ? 3 : Kinds.NONE);
        }
    }

    private static void functionalOnlyOne() {
        check.about("Promise 12: the only one; NONE: there is no such one");
        InterfaceRules x = Kinds.with(Kinds.FACE);
        check.due("no member at all", x.functional(1), Kinds.NONE);
        for (int name = 0; name <= 2; name++) {
            x.member(1, name, Kinds.ABSTRACT, 0);
        }
        check.due("NAMES 0 to 2 alone", x.functional(1), Kinds.NONE);
        x.member(1, 4, Kinds.BODY, 0);
        x.member(1, 5, Kinds.STATIC, 0);
        x.member(1, 6, Kinds.PRIVATE, 0);
        check.due("other SORTS alone", x.functional(1), Kinds.NONE);
        x.member(1, 9, Kinds.ABSTRACT, 0);
        check.due("one NAME", x.functional(1), 9);
        x.member(1, 3, Kinds.ABSTRACT, 0);
        check.due("two NAMES", x.functional(1), Kinds.NONE);
        x.member(1, 7, Kinds.ABSTRACT, 0);
        check.due("three NAMES", x.functional(1), Kinds.NONE);
    }

    private static void functionalBodyAmongThese() {
        check.about("Promise 12: NONE: a BODY is among these");
        InterfaceRules x = Kinds.with(Kinds.FACE, Kinds.FACE, Kinds.FACE);
        x.member(1, 3, Kinds.ABSTRACT, 0);
        x.member(2, 3, Kinds.BODY, 0);
        x.face(3, 1);
        check.due("without it", x.functional(3), 3);
        x.face(3, 2);
        check.due("with it", x.functional(3), Kinds.NONE);
        x.face(2, 1);
        check.due("the ABSTRACT one is LOST", x.functional(3), Kinds.NONE);
    }

    private static void functionalServes() {
        check.about("Promise 12: the first whose RESULT SERVES for all; NONE: none SERVES");
        for (int a = 0; a < 4; a++) {
            for (int b = 0; b < 4; b++) {
                InterfaceRules x = Kinds.with(Kinds.FACE, Kinds.FACE, Kinds.FACE);
                x.member(1, 3, Kinds.ABSTRACT, a);
                x.member(2, 3, Kinds.ABSTRACT, b);
                x.face(3, 1);
                x.face(3, 2);
                int due = serves(a, b) ? 3 : serves(b, a) ? 4 : Kinds.NONE;
                check.due("RESULTS " + a + " and " + b, x.functional(3), due);
                check.due("FAULT 6", x.faults(3, Kinds.NONE, 0), due == Kinds.NONE ? 1 : 0);
            }
        }
    }

    private static boolean serves(int r, int q) {
        boolean[][] rows = {{true, false, false, false}, {true, true, false, false}, {true, false, true, false}, {true, true, false, true}};
        return rows[r][q];
    }

    private static void seesTypes() {
        check.about("Promise 13: BAD: no such type");
        check.due("ROOT", Worlds.mixed().sees(0, 0), 0);
        check.due("the last type", Worlds.mixed().sees(8, 0), 0);
        check.due("the last type of all", Worlds.full().sees(15, 3), 15);
        for (int t : NO_TYPES) {
            mixed.due("in " + t, x -> x.sees(t, 0), Kinds.BAD);
        }
        for (int far : Kinds.FAR) {
            mixed.due("in " + far, x -> x.sees(far, 0), Kinds.BAD);
        }
    }

    private static void seesConstants() {
        check.about("Promise 13: BAD; CONSTANTS 0 .. 3");
        int[] due = {0, Kinds.NO, 6, Kinds.NONE};
        for (int c = 0; c <= 3; c++) {
            check.due("CONSTANT " + c, Worlds.mixed().sees(6, c), due[c]);
        }
        for (int c : new int[] {-1, 4, 5, Kinds.NONE}) {
            mixed.due("CONSTANT " + c, x -> x.sees(5, c), Kinds.BAD);
            full.due("CONSTANT " + c + " in the last type", x -> x.sees(15, c), Kinds.BAD);
        }
        for (int far : Kinds.FAR) {
            mixed.due("CONSTANT " + far, x -> x.sees(5, far), Kinds.BAD);
        }
    }

    private static void seesNoneOneSeveral() {
        check.about("Promise 13: the only one that its PARENTS see; NONE: none, NO: several");
        InterfaceRules x = Kinds.with(2, 2, 2, 2, 0);
        for (int f = 1; f <= 4; f++) {
            x.face(5, f);
        }
        check.due("none", x.sees(5, 0), Kinds.NONE);
        x.constant(4, 0, 1);
        check.due("one, of the last FACE", x.sees(5, 0), 4);
        x.constant(1, 0, 1);
        check.due("two of one value", x.sees(5, 0), Kinds.NO);
        x.constant(0, 0, 1);
        check.due("three", x.sees(5, 0), Kinds.NO);
        check.due("another CONSTANT", x.sees(5, 1), Kinds.NONE);
        x.constant(0, 1, 1);
        check.due("one, of its SUPER", x.sees(5, 1), 0);
    }

    private static void seesItself() {
        check.about("Promise 13: itself if it has one");
        InterfaceRules x = Kinds.with(2, 2, 0);
        x.face(3, 1);
        x.face(3, 2);
        x.constant(1, 3, 1);
        x.constant(2, 3, 2);
        check.due("several ahead", x.sees(3, 3), Kinds.NO);
        x.constant(3, 3, 0);
        check.due("itself, with the value 0", x.sees(3, 3), 3);
        check.due("ROOT none", x.sees(0, 3), Kinds.NONE);
        x.constant(0, 3, -1);
        check.due("ROOT itself", x.sees(0, 3), 0);
    }

    private static void valueWithoutOne() {
        check.about("Promise 14: 0 without one");
        check.due("none", Worlds.mixed().value(6, 3), 0);
        check.due("several", Worlds.mixed().value(6, 1), 0);
        check.due("one", Worlds.mixed().value(6, 0), 100);
        check.due("one that is -5", Worlds.mixed().value(5, 3), -5);
        for (int t : NO_TYPES) {
            mixed.due("in " + t, x -> x.value(t, 0), 0);
        }
        for (int c : new int[] {-1, 4, 5, Kinds.NONE}) {
            mixed.due("CONSTANT " + c, x -> x.value(5, c), 0);
            full.due("CONSTANT " + c + " in the last type", x -> x.value(15, c), 0);
        }
        for (int far : Kinds.FAR) {
            mixed.due("in " + far, x -> x.value(far, 0), 0);
            mixed.due("CONSTANT " + far, x -> x.value(5, far), 0);
        }
    }

    private static void belowTypes() {
        check.about("Promise 15: BAD");
        check.due("the last type", Worlds.mixed().below(8, 8), 1);
        check.due("ROOT and the last type", Worlds.mixed().below(0, 8), 0);
        for (int t : NO_TYPES) {
            mixed.due(t + " and ROOT", x -> x.below(t, 0), Kinds.BAD);
            mixed.due("ROOT and " + t, x -> x.below(0, t), Kinds.BAD);
            mixed.due(t + " and itself", x -> x.below(t, t), Kinds.BAD);
        }
        for (int far : Kinds.FAR) {
            mixed.due(far + " and ROOT", x -> x.below(far, 0), Kinds.BAD);
            mixed.due("ROOT and " + far, x -> x.below(0, far), Kinds.BAD);
            mixed.due(far + " and itself", x -> x.below(far, far), Kinds.BAD);
        }
    }

    private static void belowItselfAndRoot() {
        check.about("Promise 15: one type is another one; ROOT is so for FACES, too");
        InterfaceRules x = Worlds.full();
        for (int t = 0; t < 16; t++) {
            check.due(t + " and itself", x.below(t, t), 1);
            check.due(t + " and ROOT", x.below(t, 0), 1);
            check.due("ROOT and " + t, x.below(0, t), t == 0 ? 1 : 0);
        }
        for (int u = 1; u < 15; u++) {
            check.due("15 and " + u, x.below(15, u), u <= 4 || u == 14 ? 1 : 0);
        }
    }

    private static void belowTheLongestChain() {
        check.about("Promise 15: has it as an ANCESTOR, through 15 steps");
        InterfaceRules x = Kinds.with(0, 0, 0, 0, 0, 0, 0, 0, 0, 0, 0, 0, 0, 0, 0);
        InterfaceRules y = Kinds.with(2, 2, 2, 2, 2, 2, 2, 2, 2, 2, 2, 2, 2, 2, 2);
        for (int t = 15; t > 1; t--) {
            x.extend(t, t - 1);
            y.face(t, t - 1);
        }
        for (int t = 1; t <= 15; t++) {
            check.due("15 and class " + t, x.below(15, t), 1);
            check.due("15 and FACE " + t, y.below(15, t), 1);
            check.due("class " + t + " and 15", x.below(t, 15), t == 15 ? 1 : 0);
            check.due("FACE " + t + " and 15", y.below(t, 15), t == 15 ? 1 : 0);
        }
        x.extend(8, 0);
        check.due("15 and 8", x.below(15, 8), 1);
        check.due("15 and 7, no longer", x.below(15, 7), 0);
    }
}
