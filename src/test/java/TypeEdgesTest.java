/** Promises 1 to 5, sentence by sentence: the last that is allowed, the first that isn't, and what is refused. */
public final class TypeEdgesTest {
    private static final Check check = new Check();
    private static final Refusals fresh = new Refusals(check, Worlds::fresh);
    private static final Refusals mixed = new Refusals(check, Worlds::mixed);
    private static final Refusals full = new Refusals(check, Worlds::full);

    public static void main(String[] args) {
        newHasRootAlone();
        newHasThreeMembers();
        newHasNothingElse();
        newObjectsAreApart();
        typeKinds();
        typeNumbers();
        typeFull();
        typeFullIsBehindBad();
        typeFifteenIsTheLast();
        typeStartsBare();
        typeMakesThatKind();
        extendTypes();
        extendSupers();
        extendFaces();
        extendAnswers();
        faceTypes();
        faceFaces();
        faceIsThere();
        faceFull();
        faceFirstOfSeveral();
        sealFaces();
        sealTypes();
        sealNoOne();
        sealRefusedSealsNothing();
        sealIsNotForLaterTypes();
        sealOfTheLast();
        check.end();
    }

    private static void newHasRootAlone() {
        check.about("Promise 1: ROOT");
        InterfaceRules x = new InterfaceRules();
        check.due("told(0)", x.told(0), 1);
        check.due("type 0", x.below(0, 0), 1);
        check.due("type 1", x.below(1, 1), Kinds.BAD);
        check.due("type -1", x.below(-1, -1), Kinds.BAD);
        check.due("no FACE", x.functional(0), Kinds.BAD);
        check.due("a class that is not OPEN", x.call(0, 0), 0);
        check.due("without FAULTS", x.faults(0, Kinds.NONE, 0), 0);
        check.due("no FAULT 0", x.faults(0, 0, 0), Kinds.BAD);
        check.due("told(2)", x.told(2), 1);
    }

    private static void newHasThreeMembers() {
        check.about("Promise 1: its members 0, 1, 2, of NAMES 0, 1, 2");
        InterfaceRules x = new InterfaceRules();
        check.due("told(1)", x.told(1), 3);
        for (int name = 0; name < 10; name++) {
            check.due("has " + name, x.has(0, name, Kinds.NONE), name < 3 ? 1 : 0);
            check.due("has " + name + ", the first", x.has(0, name, 0), name < 3 ? name : Kinds.BAD);
            check.due("runs " + name, x.runs(0, name), name < 3 ? name : -5);
        }
        for (int m = 0; m < 3; m++) {
            check.call("ADD is 0 and CALL none, " + m, x, 0, m, 0, 0, 1, m);
        }
        for (int m = 0; m < 3; m++) {
            check.due("does of " + m, x.does(m, 1, Kinds.NOTHING, 0, 0), 1);
        }
        for (int m : new int[] {-1, 3, 59, 60}) {
            fresh.due("does of " + m, y -> y.does(m, 1, Kinds.NOTHING, 0, 0), Kinds.BAD);
        }
        x.type(Kinds.CLASS);
        for (int name = 0; name < 3; name++) {
            x.member(1, name, Kinds.BODY, name + 1);
        }
        check.faults("2 alone is FINAL, each RESULT is 0", x, 1, 3, 5);
    }

    private static void newHasNothingElse() {
        check.about("Promise 1: nothing but ROOT and its members");
        InterfaceRules x = new InterfaceRules();
        for (int what = 0; what < 3; what++) {
            check.due("no call yet", x.latest(what), Kinds.BAD);
        }
        for (int c = 0; c < 4; c++) {
            check.due("no CONSTANT is seen", x.sees(0, c), Kinds.NONE);
            check.due("no CONSTANT's value", x.value(0, c), 0);
        }
        for (int c = 0; c < 4; c++) {
            check.due("none is told", x.constant(0, c, c), 1);
        }
    }

    private static void newObjectsAreApart() {
        check.about("Promise 1: a new object");
        InterfaceRules x = Worlds.full();
        InterfaceRules y = new InterfaceRules();
        check.due("types of the other", y.told(0), 1);
        check.due("members of the other", y.told(1), 3);
        check.due("latest of the other", y.latest(0), Kinds.BAD);
        y.type(Kinds.FACE);
        check.due("types of the first", x.told(0), 16);
        check.due("member of the other", y.member(1, 3, Kinds.ABSTRACT, 0), 3);
        check.due("the first's is its own", x.has(1, 3, 0), 3);
        check.due("the first's is a BODY", x.runs(1, 3), 3);
    }

    private static void typeKinds() {
        check.about("Promise 2: 0 a class, 1 an OPEN one, 2 a FACE; BAD");
        for (int kind = 0; kind <= 2; kind++) {
            check.due("kind " + kind, new InterfaceRules().type(kind), 1);
        }
        for (int kind : new int[] {-1, 3, 4, Kinds.NONE, Integer.MIN_VALUE, Integer.MAX_VALUE}) {
            fresh.due("kind " + kind, x -> x.type(kind), Kinds.BAD);
            mixed.due("kind " + kind, x -> x.type(kind), Kinds.BAD);
        }
    }

    private static void typeNumbers() {
        check.about("Promise 2: its number; types numbered from 0");
        InterfaceRules x = new InterfaceRules();
        for (int t = 1; t <= 15; t++) {
            check.due("not there yet, " + t, x.below(t, 0), Kinds.BAD);
            x.type(-1);
            check.due("type " + t, x.type(t % 3), t);
            check.due("told", x.told(0), t + 1);
            check.due("there, " + t, x.below(t, 0), 1);
        }
    }

    private static void typeFull() {
        check.about("Promise 2: FULL; 16 at most");
        for (int k = 0; k <= 2; k++) {
            int kind = k;
            InterfaceRules x = Kinds.with(0, 0, 0, 0, 0, 0, 0, 0, 0, 0, 0, 0, 0, 0);
            check.due("the 15th is there", x.told(0), 15);
            check.due("the 16th", x.type(kind), 15);
            check.due("the 17th", x.type(kind), Kinds.FULL);
            check.due("the 17th again", x.type(kind), Kinds.FULL);
            check.due("told", x.told(0), 16);
            full.due("kind " + kind, y -> y.type(kind), Kinds.FULL);
        }
    }

    private static void typeFullIsBehindBad() {
        check.about("Promise 2: BAD, FULL, of several the first");
        full.due("kind 3", x -> x.type(3), Kinds.BAD);
        full.due("kind -1", x -> x.type(-1), Kinds.BAD);
    }

    private static void typeFifteenIsTheLast() {
        check.about("Terms 1: types, numbered from 0, 16 at most");
        InterfaceRules x = Worlds.full();
        check.due("member(15)", x.member(15, 3, Kinds.BODY, 0), Kinds.NO);
        check.due("constant(15)", x.constant(15, 0, 1), 1);
        check.due("has(15)", x.has(15, 5, Kinds.NONE), 1);
        check.due("runs(15)", x.runs(15, 0), 0);
        check.faults("faults(15): a CLASH of NAME 6", x, 15, 7, 6);
        check.due("sees(15)", x.sees(15, 0), 15);
        check.due("below(15)", x.below(15, 14), 1);
        check.due("below of 15", x.below(14, 15), 0);
        check.due("call(15)", x.call(15, 5), 0);
        check.due("STATIC of 15", x.does(0, 0, Kinds.BY_STATIC, 15, 0), 1);
        check.due("seal for 15", x.seal(1, 15), 1);
        check.due("extend(15)", x.extend(15, 13), 14);
        full.due("member(16)", y -> y.member(16, 9, Kinds.BODY, 0), Kinds.BAD);
        full.due("constant(16)", y -> y.constant(16, 0, 1), Kinds.BAD);
        full.due("has(16)", y -> y.has(16, 0, Kinds.NONE), Kinds.BAD);
        full.due("runs(16)", y -> y.runs(16, 0), Kinds.BAD);
        full.due("faults(16)", y -> y.faults(16, Kinds.NONE, 0), Kinds.BAD);
        full.due("functional(16)", y -> y.functional(16), Kinds.BAD);
        full.due("sees(16)", y -> y.sees(16, 0), Kinds.BAD);
        full.due("value(16)", y -> y.value(16, 0), 0);
        full.due("below(16)", y -> y.below(16, 0), Kinds.BAD);
        full.due("below of 16", y -> y.below(0, 16), Kinds.BAD);
        full.due("call(16)", y -> y.call(16, 0), Kinds.BAD);
        full.due("STATIC of 16", y -> y.does(0, 0, Kinds.BY_STATIC, 16, 0), Kinds.BAD);
        full.due("FACE of 16", y -> y.does(0, 0, Kinds.BY_FACE, 16, 0), Kinds.BAD);
        full.due("seal for 16", y -> y.seal(1, 16), Kinds.BAD);
        full.due("seal(16)", y -> y.seal(16, Kinds.NONE), Kinds.BAD);
        full.due("extend(16)", y -> y.extend(16, 0), Kinds.BAD);
        full.due("face(16)", y -> y.face(16, 1), Kinds.BAD);
    }

    private static void typeStartsBare() {
        check.about("Promise 2: a type more");
        for (int kind = 0; kind <= 2; kind++) {
            InterfaceRules x = Kinds.with(Kinds.FACE, kind);
            boolean isClass = kind != Kinds.FACE;
            for (int name = 0; name < 10; name++) {
                check.due("has " + name, x.has(2, name, Kinds.NONE), isClass && name < 3 ? 1 : 0);
            }
            for (int c = 0; c < 4; c++) {
                check.due("no CONSTANT", x.sees(2, c), Kinds.NONE);
            }
            check.due("no FACE", x.below(2, 1), 0);
            check.due("no FAULT", x.faults(2, Kinds.NONE, 0), 0);
            check.due("the first of its FACES", x.face(2, 1), 1);
            check.due("its SUPER, at first ROOT", x.extend(2, 0), isClass ? 0 : Kinds.BAD);
        }
    }

    private static void typeMakesThatKind() {
        check.about("Promise 2: 0 a class, 1 an OPEN one, 2 a FACE");
        int[] called = {0, Kinds.BAD, Kinds.BAD};
        int[] single = {Kinds.BAD, Kinds.BAD, Kinds.NONE};
        for (int kind = 0; kind <= 2; kind++) {
            InterfaceRules x = Kinds.with(kind);
            check.due("call on kind " + kind, x.call(1, 0), called[kind]);
            check.due("functional of kind " + kind, x.functional(1), single[kind]);
        }
    }

    private static void extendTypes() {
        check.about("Promise 3: BAD: ROOT, no such type");
        check.due("the least class", Kinds.with(Kinds.CLASS).extend(1, 0), 0);
        check.due("the greatest class", Worlds.full().extend(15, 0), 14);
        check.due("an OPEN one", Worlds.mixed().extend(4, 0), 0);
        for (int t : new int[] {0, -1, 9, 15, 16, Kinds.NONE}) {
            mixed.due("extend " + t, x -> x.extend(t, 0), Kinds.BAD);
        }
        fresh.due("ROOT by ROOT", x -> x.extend(0, 0), Kinds.BAD);
        fresh.due("no type but ROOT", x -> x.extend(1, 0), Kinds.BAD);
        for (int far : Kinds.FAR) {
            mixed.due("extend " + far, x -> x.extend(far, 0), Kinds.BAD);
        }
    }

    private static void extendSupers() {
        check.about("Promise 3: BAD: no class of a lesser number");
        check.due("ROOT, the least", Worlds.mixed().extend(6, 0), 4);
        check.due("the next lesser number", Worlds.mixed().extend(6, 5), 4);
        check.due("an OPEN one", Worlds.mixed().extend(5, 4), 0);
        check.due("the next lesser number of the last type", Worlds.full().extend(15, 14), 14);
        for (int s : new int[] {-1, 6, 8, 9, 16, Kinds.NONE}) {
            mixed.due("6 by " + s, x -> x.extend(6, s), Kinds.BAD);
        }
        mixed.due("itself", x -> x.extend(5, 5), Kinds.BAD);
        mixed.due("the next greater number", x -> x.extend(4, 5), Kinds.BAD);
        for (int far : Kinds.FAR) {
            mixed.due("6 by " + far, x -> x.extend(6, far), Kinds.BAD);
        }
    }

    private static void extendFaces() {
        check.about("Promise 3: BAD: FACES");
        mixed.due("a FACE by ROOT", x -> x.extend(2, 0), Kinds.BAD);
        mixed.due("a FACE by a FACE", x -> x.extend(2, 1), Kinds.BAD);
        mixed.due("a FACE by a class", x -> x.extend(7, 5), Kinds.BAD);
        mixed.due("a class by a FACE", x -> x.extend(6, 3), Kinds.BAD);
        mixed.due("a class by the FACE of the next lesser number", x -> x.extend(8, 7), Kinds.BAD);
    }

    private static void extendAnswers() {
        check.about("Promise 3: which it was; at first ROOT");
        InterfaceRules x = Kinds.with(Kinds.CLASS, Kinds.OPEN, Kinds.CLASS);
        check.due("at first", x.extend(3, 2), 0);
        check.due("then", x.extend(3, 1), 2);
        x.extend(3, 3);
        check.due("behind a refused one", x.extend(3, 0), 1);
        check.due("ROOT again", x.extend(3, 1), 0);
        check.due("its own one", x.extend(3, 1), 1);
    }

    private static void faceTypes() {
        check.about("Promise 4: BAD: ROOT, no such type");
        check.due("the least", Kinds.with(Kinds.FACE, Kinds.CLASS).face(2, 1), 1);
        check.due("the greatest", Worlds.full().face(15, 4), Kinds.NO);
        check.due("a FACE", Kinds.with(Kinds.FACE, Kinds.FACE).face(2, 1), 1);
        check.due("an OPEN class", Kinds.with(Kinds.FACE, Kinds.OPEN).face(2, 1), 1);
        for (int t : new int[] {0, -1, 9, 15, 16, Kinds.NONE}) {
            mixed.due("of " + t, x -> x.face(t, 1), Kinds.BAD);
        }
        for (int far : Kinds.FAR) {
            mixed.due("of " + far, x -> x.face(far, 1), Kinds.BAD);
        }
    }

    private static void faceFaces() {
        check.about("Promise 4: BAD: no FACE of a lesser number");
        check.due("1, the least", Worlds.mixed().face(7, 1), 2);
        check.due("the next lesser number", Worlds.mixed().face(4, 3), 2);
        for (int f : new int[] {-1, 0, 4, 5, 6, 7, 8, 9, 16, Kinds.NONE}) {
            mixed.due("6 with " + f, x -> x.face(6, f), Kinds.BAD);
        }
        mixed.due("itself", x -> x.face(3, 3), Kinds.BAD);
        mixed.due("the next greater number", x -> x.face(2, 3), Kinds.BAD);
        mixed.due("a class of the next lesser number", x -> x.face(5, 4), Kinds.BAD);
        fresh.due("ROOT with itself", x -> x.face(0, 0), Kinds.BAD);
        for (int far : Kinds.FAR) {
            mixed.due("6 with " + far, x -> x.face(6, far), Kinds.BAD);
        }
    }

    private static void faceIsThere() {
        check.about("Promise 4: NO: it is there; each once");
        mixed.due("the only one", x -> x.face(2, 1), Kinds.NO);
        mixed.due("the first of two", x -> x.face(6, 2), Kinds.NO);
        mixed.due("the last of two", x -> x.face(6, 3), Kinds.NO);
        InterfaceRules x = Worlds.mixed();
        check.due("an ANCESTOR is not there yet", x.below(6, 1), 1);
        check.due("an ANCESTOR that is none of its FACES", x.face(6, 1), 3);
        check.due("now it is there", x.face(6, 1), Kinds.NO);
        check.due("in another type it is not", x.face(5, 1), 1);
    }

    private static void faceFull() {
        check.about("Promise 4: FULL; 4 at most");
        for (int kind = 0; kind <= 2; kind++) {
            InterfaceRules x = Kinds.with(Kinds.FACE, Kinds.FACE, Kinds.FACE, Kinds.FACE, Kinds.FACE, kind, kind);
            for (int f = 1; f <= 4; f++) {
                check.due("how many", x.face(6, f), f);
            }
            check.due("the fifth", x.face(6, 5), Kinds.FULL);
            check.due("the fifth is not there", x.below(6, 5), 0);
            check.due("the fifth again", x.face(6, 5), Kinds.FULL);
            check.due("another type has room", x.face(7, 5), 1);
        }
        full.due("5 at the last type", x -> x.face(15, 5), Kinds.FULL);
        full.due("6 at the last type", x -> x.face(15, 6), Kinds.FULL);
    }

    private static void faceFirstOfSeveral() {
        check.about("Promise 4: BAD, NO, FULL, of several the first");
        for (int f : new int[] {1, 2, 3, 7}) {
            mixed.due("NO ahead of FULL, " + f, x -> x.face(8, f), Kinds.NO);
        }
        for (int f : new int[] {0, 5, 8, 9, -1}) {
            mixed.due("BAD ahead of FULL, " + f, x -> x.face(8, f), Kinds.BAD);
        }
    }

    private static void sealFaces() {
        check.about("Promise 5: BAD: no FACE");
        check.due("the least FACE", Worlds.mixed().seal(1, Kinds.NONE), 1);
        check.due("the last FACE", Worlds.mixed().seal(7, Kinds.NONE), 1);
        for (int f : new int[] {-1, 0, 4, 5, 6, 8, 9, 16, Kinds.NONE}) {
            mixed.due("no one by " + f, x -> x.seal(f, Kinds.NONE), Kinds.BAD);
            mixed.due("8 by " + f, x -> x.seal(f, 8), Kinds.BAD);
        }
        for (int far : Kinds.FAR) {
            mixed.due("no one by " + far, x -> x.seal(far, Kinds.NONE), Kinds.BAD);
        }
    }

    private static void sealTypes() {
        check.about("Promise 5: BAD: no type of a greater number");
        for (int t = 3; t <= 8; t++) {
            check.due("2 for " + t, Worlds.mixed().seal(2, t), 1);
        }
        // NONE is -4: the numbers on both sides of it are no types.
        for (int t : new int[] {-5, -3, -2, -1, 0, 1, 2, 9, 10, 15, 16}) {
            mixed.due("2 for " + t, x -> x.seal(2, t), Kinds.BAD);
        }
        for (int t : new int[] {-1, 2, 3, 9}) {
            mixed.due("3, SEALED already, for " + t, x -> x.seal(3, t), Kinds.BAD);
        }
        for (int far : Kinds.FAR) {
            mixed.due("2 for " + far, x -> x.seal(2, far), Kinds.BAD);
        }
    }

    private static void sealNoOne() {
        check.about("Promise 5: NONE: no one");
        InterfaceRules x = Kinds.with(Kinds.FACE, Kinds.CLASS, Kinds.CLASS);
        x.face(2, 1);
        x.face(3, 1);
        check.due("for no one", x.seal(1, Kinds.NONE), 1);
        check.faults("2 is not permitted", x, 2, 13, 1);
        check.faults("3 is not permitted", x, 3, 13, 1);
        check.due("for one more", x.seal(1, 3), 1);
        check.faults("2 is still not", x, 2, 13, 1);
        check.faults("3 is", x, 3);
        check.due("for no one more", x.seal(1, Kinds.NONE), 1);
        check.faults("3 still is", x, 3);
    }

    private static void sealRefusedSealsNothing() {
        check.about("Promise 5: what is refused changes nothing");
        InterfaceRules x = Kinds.with(Kinds.FACE, Kinds.CLASS);
        x.face(2, 1);
        for (int t : new int[] {-5, -1, 0, 1, 3}) {
            check.due("1 for " + t, x.seal(1, t), Kinds.BAD);
            check.faults("it is not SEALED", x, 2);
        }
        x.seal(1, Kinds.NONE);
        for (int t : new int[] {-30, -5, -1, 0, 1, 3, 34}) {
            check.due("1 for " + t, x.seal(1, t), Kinds.BAD);
            check.faults("it does not PERMIT 2", x, 2, 13, 1);
        }
    }

    private static void sealIsNotForLaterTypes() {
        check.about("Promise 5: a type that is not there yet");
        InterfaceRules x = Kinds.with(Kinds.FACE, Kinds.CLASS);
        check.due("for 2", x.seal(1, 2), 1);
        check.due("for 3", x.seal(1, 3), Kinds.BAD);
        x.type(Kinds.CLASS);
        x.face(3, 1);
        check.faults("3 was not permitted", x, 3, 13, 1);
        check.due("for 3, now", x.seal(1, 3), 1);
        check.faults("3 is permitted", x, 3);
    }

    private static void sealOfTheLast() {
        check.about("Promise 5: the last type");
        InterfaceRules x = Kinds.with(2, 0, 0, 0, 0, 0, 0, 0, 0, 0, 0, 0, 0, 2, 2);
        check.due("15 for no one", x.seal(15, Kinds.NONE), 1);
        check.due("15 for itself", x.seal(15, 15), Kinds.BAD);
        check.due("15 for 16", x.seal(15, 16), Kinds.BAD);
        x.face(15, 14);
        x.face(15, 1);
        check.due("14 for 15", x.seal(14, 15), 1);
        check.due("1 for 14", x.seal(1, 14), 1);
        check.faults("15 is permitted by 14 alone", x, 15, 13, 1);
        check.due("1 for 15", x.seal(1, 15), 1);
        check.faults("15 is permitted by both", x, 15);
    }
}
