/** Promises 11 and 18, sentence by sentence: the last that is allowed, the first that isn't, empty and full. */
public final class FaultEdgesTest {
    private static final Check check = new Check();
    private static final Refusals fresh = new Refusals(check, Worlds::fresh);
    private static final Refusals mixed = new Refusals(check, Worlds::mixed);
    private static final Refusals full = new Refusals(check, Worlds::full);

    public static void main(String[] args) {
        types();
        places();
        whats();
        whatIsNotLookedAt();
        noFaults();
        namesOfRoot();
        twoOrMore();
        mostOfOwnMembers();
        mostOfOtherNames();
        ofEachFace();
        superOfRootAndFaces();
        toldWhats();
        toldLeast();
        toldMost();
        toldWithoutFaults();
        check.end();
    }

    private static void types() {
        check.about("Promise 11: BAD: no such type");
        check.due("ROOT", Worlds.mixed().faults(0, Kinds.NONE, 0), 0);
        check.faults("the last type", Worlds.mixed(), 8, 13, 3);
        check.faults("the last type of all", Worlds.full(), 15, 7, 6);
        for (int t : new int[] {-1, 9, 15, 16, Kinds.NONE}) {
            mixed.due("how many of " + t, x -> x.faults(t, Kinds.NONE, 0), Kinds.BAD);
            mixed.due("the first of " + t, x -> x.faults(t, 0, 0), Kinds.BAD);
        }
        full.due("how many of 16", x -> x.faults(16, Kinds.NONE, 0), Kinds.BAD);
        for (int far : Kinds.FAR) {
            mixed.due("how many of " + far, x -> x.faults(far, Kinds.NONE, 0), Kinds.BAD);
        }
    }

    private static void places() {
        check.about("Promise 11: BAD: also i is not NONE and there is none such");
        check.faults("7 has one", Worlds.mixed(), 7, 13, 3);
        // NONE is -4: the numbers on both sides of it are no places.
        for (int i : new int[] {-6, -5, -3, -2, -1, 1, 2, 200}) {
            mixed.due("code at " + i, x -> x.faults(7, i, 0), Kinds.BAD);
            mixed.due("number at " + i, x -> x.faults(7, i, 1), Kinds.BAD);
        }
        for (int far : Kinds.FAR) {
            mixed.due("code at " + far, x -> x.faults(7, far, 0), Kinds.BAD);
        }
    }

    private static void whats() {
        check.about("Promise 11: its code (what = 0), its number (1)");
        check.due("what 0", Worlds.mixed().faults(7, 0, 0), 13);
        check.due("what 1", Worlds.mixed().faults(7, 0, 1), 3);
        for (int what : new int[] {-1, 2, 3, Kinds.NONE}) {
            mixed.due("what " + what, x -> x.faults(7, 0, what), Kinds.BAD);
        }
        for (int far : Kinds.FAR) {
            mixed.due("what " + far, x -> x.faults(7, 0, far), Kinds.BAD);
        }
    }

    private static void whatIsNotLookedAt() {
        check.about("Promise 11: i = NONE; what is not looked at");
        for (int what : new int[] {-1, 0, 1, 2, 3, Kinds.NONE, Integer.MIN_VALUE, Integer.MAX_VALUE}) {
            check.due("one, what " + what, Worlds.mixed().faults(7, Kinds.NONE, what), 1);
            check.due("none, what " + what, Worlds.mixed().faults(0, Kinds.NONE, what), 0);
            mixed.due("no such type, what " + what, x -> x.faults(9, Kinds.NONE, what), Kinds.BAD);
        }
    }

    private static void noFaults() {
        check.about("Promise 11: how many, of none");
        for (int kind = 0; kind <= 2; kind++) {
            InterfaceRules x = Kinds.with(kind);
            check.due("how many", x.faults(1, Kinds.NONE, 0), 0);
            check.due("code at 0", x.faults(1, 0, 0), Kinds.BAD);
            check.due("number at 0", x.faults(1, 0, 1), Kinds.BAD);
        }
        fresh.due("code at 0 of ROOT", x -> x.faults(0, 0, 0), Kinds.BAD);
    }

    private static void namesOfRoot() {
        check.about("Terms 4: 1 in a FACE, of NAME 0 or 1, a BODY, or of NAME 2, neither PRIVATE nor STATIC");
        int[][] due = {{0, 1, 0, 0}, {0, 1, 0, 0}, {1, 1, 0, 0}, {0, 0, 0, 0}, {0, 0, 0, 0}};
        for (int name = 0; name <= 4; name++) {
            for (int sort = Kinds.ABSTRACT; sort <= Kinds.PRIVATE; sort++) {
                InterfaceRules x = Kinds.with(Kinds.FACE, Kinds.OPEN);
                x.member(1, name, sort, 0);
                x.member(2, name, sort, 0);
                check.due("NAME " + name + ", SORT " + sort, x.faults(1, Kinds.NONE, 0), due[name][sort]);
                check.holds("not in a class", x.faults(2, 0, 0) != 1);
            }
        }
    }

    private static void twoOrMore() {
        check.about("Terms 4: 6 it HAS two or more");
        InterfaceRules x = Kinds.with(Kinds.FACE, Kinds.FACE, Kinds.FACE, Kinds.FACE);
        for (int f = 1; f <= 3; f++) {
            x.member(f, 3, Kinds.ABSTRACT, f);
        }
        check.faults("none", x, 4);
        x.face(4, 1);
        check.faults("one", x, 4);
        x.face(4, 3);
        check.faults("two, and 3 SERVES for 1", x, 4);
        x.face(4, 2);
        check.faults("three, and none SERVES for all", x, 4, 6, 3);
    }

    /** FACE 7 has ten own members, is given 47 and has four SEALED FACES: 60 members in all. */
    private static InterfaceRules mostFaults() {
        InterfaceRules x = Kinds.with(2, 2, 2, 2, 2, 2, 2);
        for (int m = 3; m < 50; m++) {
            int place = 52 - m;
            x.member(5 - place / 10, 9 - place % 10, Kinds.ABSTRACT, 1);
        }
        for (int m = 50; m < 60; m++) {
            int name = 59 - m;
            x.member(7, name, name < 3 ? Kinds.BODY : Kinds.PRIVATE, 0);
            x.does(m, 0, Kinds.SUPER, 0, 0);
        }
        int[][] faces = {{6, 4}, {6, 5}, {7, 6}, {7, 3}, {7, 2}, {7, 1}};
        for (int[] row : faces) {
            x.face(row[0], row[1]);
            x.seal(row[1], Kinds.NONE);
        }
        return x;
    }

    private static void mostOfOwnMembers() {
        check.about("Promise 11: the i-th, of the most that own members can have against them");
        InterfaceRules x = mostFaults();
        check.due("all members", x.told(1), 60);
        int[] wanted = new int[2 * (3 + 47 + 10 + 4)];
        int n = 0;
        for (int name = 0; name < 10; name++) {
            int given = x.has(1, name, Kinds.NONE) + x.has(2, name, Kinds.NONE) + x.has(3, name, Kinds.NONE) + x.has(6, name, Kinds.NONE);
            for (int k = name < 3 ? -1 : 0; k < given; k++) {
                wanted[n++] = k < 0 ? 1 : name < 3 ? 5 : 4;
                wanted[n++] = 59 - name;
            }
        }
        for (int m = 50; m < 60; m++) {
            wanted[n++] = 10;
            wanted[n++] = m;
        }
        for (int f : new int[] {6, 3, 2, 1}) {
            wanted[n++] = 13;
            wanted[n++] = f;
        }
        check.due("64 are wanted", n, 128);
        check.faults("64", x, 7, wanted);
    }

    private static void mostOfOtherNames() {
        check.about("Promise 11: the i-th, of the most that NAMES without an own member can have against them");
        InterfaceRules x = Kinds.with(2, 2, 2);
        int[] wanted = new int[40];
        for (int name = 0; name < 10; name++) {
            x.member(1, name, Kinds.BODY, 1);
            x.member(2, name, Kinds.BODY, 2);
            wanted[4 * name] = 6;
            wanted[4 * name + 1] = name;
            wanted[4 * name + 2] = 7;
            wanted[4 * name + 3] = name;
        }
        x.face(3, 1);
        x.face(3, 2);
        check.faults("20", x, 3, wanted);
    }

    private static void ofEachFace() {
        check.about("Terms 4: 13 each SEALED one of its FACES, in order, that does not PERMIT it");
        InterfaceRules x = Kinds.with(2, 2, 2, 2, 0, 0);
        for (int f = 4; f >= 1; f--) {
            x.face(5, f);
            x.face(6, f);
        }
        check.faults("none is SEALED", x, 5);
        for (int f = 1; f <= 4; f++) {
            x.seal(f, 6);
        }
        check.faults("all four", x, 5, 13, 4, 13, 3, 13, 2, 13, 1);
        check.faults("all four permit 6", x, 6);
        x.seal(4, 5);
        x.seal(1, 5);
        check.faults("those between", x, 5, 13, 3, 13, 2);
    }

    private static void superOfRootAndFaces() {
        check.about("Terms 4: 10 SUPER n in a FACE or ROOT, or its SUPER RUNS NOTHING for n");
        InterfaceRules x = Kinds.with(Kinds.FACE, Kinds.CLASS);
        x.member(1, 3, Kinds.BODY, 0);
        x.member(2, 3, Kinds.BODY, 0);
        for (int name = 0; name <= 9; name++) {
            x.does(0, 0, Kinds.SUPER, 0, name);
            x.does(3, 0, Kinds.SUPER, 0, name);
            x.does(4, 0, Kinds.SUPER, 0, name);
            check.due("in ROOT, NAME " + name, x.faults(0, 0, 0), 10);
            check.due("in a FACE, NAME " + name, x.faults(1, 0, 0), 10);
            check.due("in a class, NAME " + name, x.faults(2, 0, 0), name < 3 ? Kinds.BAD : 10);
        }
    }

    private static void toldWhats() {
        check.about("Promise 18: BAD");
        int[] due = {9, 17, 6};
        for (int what = 0; what <= 2; what++) {
            check.due("what " + what, Worlds.mixed().told(what), due[what]);
        }
        for (int what : new int[] {-1, 3, 4, Kinds.NONE}) {
            mixed.due("what " + what, x -> x.told(what), Kinds.BAD);
        }
        for (int far : Kinds.FAR) {
            mixed.due("what " + far, x -> x.told(far), Kinds.BAD);
        }
    }

    private static void toldLeast() {
        check.about("Promise 18: of a new object");
        InterfaceRules x = new InterfaceRules();
        check.due("types", x.told(0), 1);
        check.due("members", x.told(1), 3);
        check.due("types without FAULTS", x.told(2), 1);
    }

    private static void toldMost() {
        check.about("Promise 18: of a full object");
        InterfaceRules x = Worlds.full();
        x.type(0);
        x.member(15, 6, Kinds.BODY, 0);
        check.due("types", x.told(0), 16);
        check.due("members", x.told(1), 60);
        check.due("types without FAULTS", x.told(2), 15);
        InterfaceRules y = Kinds.with(0, 1, 2, 0, 1, 2, 0, 1, 2, 0, 1, 2, 0, 1, 2);
        check.due("16 types without FAULTS", y.told(2), 16);
    }

    private static void toldWithoutFaults() {
        check.about("Promise 18: 2 types without FAULTS");
        InterfaceRules x = Kinds.with(Kinds.FACE);
        check.due("two", x.told(2), 2);
        x.member(1, 2, Kinds.ABSTRACT, 0);
        check.due("one", x.told(2), 1);
        x.does(0, 0, Kinds.SUPER, 0, 0);
        check.due("none", x.told(2), 0);
        x.does(0, 0, Kinds.NOTHING, 0, 0);
        check.due("one again", x.told(2), 1);
    }
}
