/** Promises 6 to 8, sentence by sentence: the last that is allowed, the first that isn't, and what is refused. */
public final class MemberEdgesTest {
    private static final Check check = new Check();
    private static final Refusals fresh = new Refusals(check, Worlds::fresh);
    private static final Refusals mixed = new Refusals(check, Worlds::mixed);
    private static final Refusals full = new Refusals(check, Worlds::full);

    public static void main(String[] args) {
        memberTypes();
        memberNames();
        memberSorts();
        memberResults();
        memberIsThere();
        memberNumbers();
        memberFull();
        memberFirstOfSeveral();
        doesMembers();
        doesAbstract();
        doesAdds();
        doesCalls();
        doesNames();
        doesFaces();
        doesTypes();
        doesNotLookAt();
        doesAtFirst();
        doesRefusedChangesNothing();
        constantTypes();
        constantNumbers();
        constantValues();
        constantIsTold();
        constantFirstOfSeveral();
        check.end();
    }

    private static void memberTypes() {
        check.about("Promise 6: BAD: ROOT, no such type");
        check.due("the least", Kinds.with(Kinds.CLASS).member(1, 3, Kinds.BODY, 0), 3);
        check.due("the greatest", Worlds.mixed().member(8, 3, Kinds.BODY, 0), 17);
        for (int t : new int[] {-1, 0, 9, 15, 16, Kinds.NONE}) {
            mixed.due("of " + t, x -> x.member(t, 3, Kinds.BODY, 0), Kinds.BAD);
        }
        for (int name = 0; name < 10; name++) {
            int n = name;
            fresh.due("of ROOT, NAME " + n, x -> x.member(0, n, Kinds.BODY, 0), Kinds.BAD);
        }
        for (int far : Kinds.FAR) {
            mixed.due("of " + far, x -> x.member(far, 3, Kinds.BODY, 0), Kinds.BAD);
        }
    }

    private static void memberNames() {
        check.about("Promise 6: BAD: NAME; 0 .. 9");
        for (int name = 0; name <= 9; name++) {
            InterfaceRules x = Worlds.mixed();
            check.due("NAME " + name, x.member(8, name, Kinds.BODY, 0), 17);
            check.has("it is there", x, 8, name, 17);
        }
        for (int name : new int[] {-1, 10, 11, 160, Kinds.NONE}) {
            mixed.due("NAME " + name, x -> x.member(8, name, Kinds.BODY, 0), Kinds.BAD);
            mixed.due("NAME " + name + " of a FACE", x -> x.member(7, name, Kinds.BODY, 0), Kinds.BAD);
        }
        for (int far : Kinds.FAR) {
            mixed.due("NAME " + far, x -> x.member(8, far, Kinds.BODY, 0), Kinds.BAD);
        }
    }

    private static void memberSorts() {
        check.about("Promise 6: BAD: a SORT that is not told for such a type");
        int[][] rows = {{4, 0, 4}, {7, 0, 3}, {8, 1, 4}}; // a type, its least SORT, its greatest one
        for (int[] row : rows) {
            for (int k = -2; k <= 6; k++) {
                int sort = k;
                if (sort >= row[1] && sort <= row[2]) {
                    check.due("SORT " + sort + " in " + row[0], Worlds.mixed().member(row[0], 5, sort, 0), 17);
                } else {
                    mixed.due("SORT " + sort + " in " + row[0], x -> x.member(row[0], 5, sort, 0), Kinds.BAD);
                }
            }
            for (int far : Kinds.FAR) {
                mixed.due("SORT " + far + " in " + row[0], x -> x.member(row[0], 5, far, 0), Kinds.BAD);
            }
        }
    }

    private static void memberResults() {
        check.about("Promise 6: BAD: RESULT; 0 .. 3");
        for (int result = 0; result <= 3; result++) {
            check.due("RESULT " + result, Worlds.mixed().member(8, 3, Kinds.BODY, result), 17);
        }
        for (int result : new int[] {-1, 4, 5, Kinds.NONE}) {
            mixed.due("RESULT " + result, x -> x.member(8, 3, Kinds.BODY, result), Kinds.BAD);
            mixed.due("RESULT " + result + " of a FACE", x -> x.member(7, 3, Kinds.ABSTRACT, result), Kinds.BAD);
        }
        for (int far : Kinds.FAR) {
            mixed.due("RESULT " + far, x -> x.member(8, 3, Kinds.BODY, far), Kinds.BAD);
        }
    }

    private static void memberIsThere() {
        check.about("Promise 6: NO: the type has one; one of a NAME in each");
        int[][] own = {{1, 3}, {1, 4}, {1, 5}, {1, 6}, {4, 3}, {4, 9}, {5, 0}, {6, 3}};
        for (int[] row : own) {
            for (int k = Kinds.BODY; k <= Kinds.PRIVATE; k++) {
                int sort = k;
                mixed.due("NAME " + row[1] + " of " + row[0] + " again", x -> x.member(row[0], row[1], sort, 0), Kinds.NO);
            }
        }
        check.due("one that it HAS, but not its own", Worlds.mixed().member(6, 8, Kinds.BODY, 0), 17);
        check.due("one of ROOT's NAMES", Worlds.mixed().member(6, 0, Kinds.BODY, 0), 17);
        check.due("the same NAME in a type of the next number", Worlds.mixed().member(7, 4, Kinds.BODY, 0), 17);
    }

    private static void memberNumbers() {
        check.about("Promise 6: its number; members numbered from 0");
        InterfaceRules x = Kinds.with(Kinds.OPEN, Kinds.FACE);
        for (int name = 0; name <= 9; name++) {
            x.member(1, 10, Kinds.BODY, 0);
            check.due("all ten NAMES of a type", x.member(1, name, name % 5, name % 4), 3 + name);
            x.member(1, name, Kinds.BODY, 0);
            check.due("told", x.told(1), 4 + name);
        }
        check.due("the next in another type", x.member(2, 0, Kinds.ABSTRACT, 0), 13);
        check.has("the last of the first", x, 1, 9, 12);
    }

    private static void memberFull() {
        check.about("Promise 6: FULL; 60 at most");
        InterfaceRules x = Kinds.with(0, 0, 0, 0, 0, 0, 0);
        for (int m = 3; m < 59; m++) {
            x.member(1 + m / 10, m % 10, Kinds.BODY, 0);
        }
        check.due("59 are there", x.told(1), 59);
        check.due("the 60th", x.member(7, 9, Kinds.BODY, 0), 59);
        check.due("the 61st", x.member(7, 8, Kinds.BODY, 0), Kinds.FULL);
        check.due("the 61st again", x.member(1, 0, Kinds.STATIC, 3), Kinds.FULL);
        check.due("told", x.told(1), 60);
        full.due("in a class", y -> y.member(15, 6, Kinds.BODY, 0), Kinds.FULL);
        full.due("in an OPEN class", y -> y.member(7, 7, Kinds.ABSTRACT, 0), Kinds.FULL);
        full.due("in a FACE", y -> y.member(1, 0, Kinds.ABSTRACT, 0), Kinds.FULL);
    }

    private static void memberFirstOfSeveral() {
        check.about("Promise 6: BAD, NO, FULL, of several the first");
        mixed.due("BAD SORT ahead of NO", x -> x.member(6, 3, Kinds.ABSTRACT, 0), Kinds.BAD);
        mixed.due("BAD SORT of a FACE ahead of NO", x -> x.member(1, 3, Kinds.FINAL, 0), Kinds.BAD);
        mixed.due("BAD RESULT ahead of NO", x -> x.member(6, 3, Kinds.BODY, 4), Kinds.BAD);
        mixed.due("ROOT ahead of NO", x -> x.member(0, 0, Kinds.BODY, 0), Kinds.BAD);
        full.due("ROOT ahead of FULL", x -> x.member(0, 3, Kinds.BODY, 0), Kinds.BAD);
        full.due("BAD NAME ahead of FULL", x -> x.member(15, 10, Kinds.BODY, 0), Kinds.BAD);
        full.due("BAD SORT ahead of FULL", x -> x.member(15, 6, Kinds.ABSTRACT, 0), Kinds.BAD);
        full.due("BAD RESULT ahead of FULL", x -> x.member(15, 6, Kinds.BODY, -1), Kinds.BAD);
        full.due("BAD RESULT ahead of NO and FULL", x -> x.member(15, 3, Kinds.BODY, -1), Kinds.BAD);
        full.due("NO ahead of FULL", x -> x.member(15, 3, Kinds.BODY, 0), Kinds.NO);
    }

    private static void doesMembers() {
        check.about("Promise 7: BAD: no such member");
        check.due("0, the least", Worlds.mixed().does(0, 1, Kinds.NOTHING, 0, 0), 1);
        check.due("16, the last", Worlds.mixed().does(16, 1, Kinds.NOTHING, 0, 0), 1);
        check.due("59, the last of all", Worlds.full().does(59, 1, Kinds.NOTHING, 0, 0), 1);
        for (int m : new int[] {-1, 17, 59, 60, Kinds.NONE}) {
            mixed.due("member " + m, x -> x.does(m, 1, Kinds.NOTHING, 0, 0), Kinds.BAD);
        }
        full.due("member 60", x -> x.does(60, 1, Kinds.NOTHING, 0, 0), Kinds.BAD);
        for (int far : Kinds.FAR) {
            mixed.due("member " + far, x -> x.does(far, 1, Kinds.NOTHING, 0, 0), Kinds.BAD);
        }
        InterfaceRules x = Worlds.mixed();
        for (int m = 0; m < 3; m++) {
            check.due("also of ROOT, " + m, x.does(m, 7 + m, Kinds.NOTHING, 0, 0), 1);
            check.call("it does so", x, 0, m, 7 + m, 0, 1, m);
        }
    }

    private static void doesAbstract() {
        check.about("Promise 7: BAD: also ABSTRACT ones");
        for (int m : new int[] {3, 9}) {
            mixed.due("ADD of " + m, x -> x.does(m, 0, Kinds.NOTHING, 0, 0), Kinds.BAD);
            mixed.due("CALL of " + m, x -> x.does(m, 0, Kinds.THIS, 0, 9), Kinds.BAD);
        }
        for (int sort = Kinds.BODY; sort <= Kinds.FINAL; sort++) {
            InterfaceRules x = Kinds.with(Kinds.OPEN);
            x.member(1, 3, sort, 0);
            check.due("SORT " + sort, x.does(3, 1, Kinds.NOTHING, 0, 0), 1);
        }
    }

    private static void doesAdds() {
        check.about("Promise 7: ADD -1000 .. 1000");
        for (int add : new int[] {-1000, -999, -1, 0, 1, 999, 1000}) {
            InterfaceRules x = Worlds.mixed();
            check.due("ADD " + add, x.does(12, add, Kinds.NOTHING, 0, 0), 1);
            check.due("it does so", x.call(5, 0), add);
        }
        for (int add : new int[] {-1001, 1001, -1002, 1002}) {
            mixed.due("ADD " + add, x -> x.does(12, add, Kinds.NOTHING, 0, 0), Kinds.BAD);
            mixed.due("ADD with a CALL " + add, x -> x.does(12, add, Kinds.THIS, 0, 1), Kinds.BAD);
        }
        for (int far : new int[] {Integer.MIN_VALUE, -1000000, 1000000, Integer.MAX_VALUE}) {
            mixed.due("ADD " + far, x -> x.does(12, far, Kinds.NOTHING, 0, 0), Kinds.BAD);
        }
    }

    private static void doesCalls() {
        check.about("Promise 7: CALL 0 nothing, 1 to 4");
        for (int call = 0; call <= 4; call++) {
            check.due("CALL " + call, Worlds.mixed().does(12, 1, call, 1, 5), 1);
        }
        for (int call : new int[] {-1, 5, 6, Kinds.NONE}) {
            mixed.due("CALL " + call, x -> x.does(12, 1, call, 1, 5), Kinds.BAD);
        }
        for (int far : Kinds.FAR) {
            mixed.due("CALL " + far, x -> x.does(12, 1, far, 1, 5), Kinds.BAD);
        }
    }

    private static void doesNames() {
        check.about("Promise 7: a NAME; 0 .. 9");
        for (int k = Kinds.THIS; k <= Kinds.BY_STATIC; k++) {
            int call = k;
            for (int name : new int[] {0, 1, 8, 9}) {
                check.due("NAME " + name + " by " + call, Worlds.mixed().does(12, 1, call, 1, name), 1);
            }
            for (int name : new int[] {-1, 10, 11, Kinds.NONE}) {
                mixed.due("NAME " + name + " by " + call, x -> x.does(12, 1, call, 1, name), Kinds.BAD);
            }
            for (int far : Kinds.FAR) {
                mixed.due("NAME " + far + " by " + call, x -> x.does(12, 1, call, 1, far), Kinds.BAD);
            }
        }
    }

    private static void doesFaces() {
        check.about("Promise 7: by 3 a FACE");
        for (int f : new int[] {1, 2, 3, 7}) {
            check.due("FACE " + f, Worlds.mixed().does(12, 1, Kinds.BY_FACE, f, 5), 1);
        }
        check.due("a FACE of a greater number than the member's type", Worlds.mixed().does(4, 1, Kinds.BY_FACE, 7, 5), 1);
        for (int f : new int[] {-1, 0, 4, 5, 6, 8, 9, 16, Kinds.NONE}) {
            mixed.due("FACE " + f, x -> x.does(12, 1, Kinds.BY_FACE, f, 5), Kinds.BAD);
        }
        for (int far : Kinds.FAR) {
            mixed.due("FACE " + far, x -> x.does(12, 1, Kinds.BY_FACE, far, 5), Kinds.BAD);
        }
    }

    private static void doesTypes() {
        check.about("Promise 7: by 4 a type");
        for (int t = 0; t <= 8; t++) {
            check.due("STATIC " + t, Worlds.mixed().does(12, 1, Kinds.BY_STATIC, t, 5), 1);
        }
        for (int t : new int[] {-1, 9, 15, 16, Kinds.NONE}) {
            mixed.due("STATIC " + t, x -> x.does(12, 1, Kinds.BY_STATIC, t, 5), Kinds.BAD);
        }
        for (int far : Kinds.FAR) {
            mixed.due("STATIC " + far, x -> x.does(12, 1, Kinds.BY_STATIC, far, 5), Kinds.BAD);
        }
    }

    private static void doesNotLookAt() {
        check.about("Promise 7: else u is not looked at; NAME not looked at by 0");
        int[] odd = {Integer.MIN_VALUE, -5, -1, 9, 10, 16, 1000, Integer.MAX_VALUE};
        for (int number : odd) {
            InterfaceRules x = Worlds.mixed();
            check.due("u and NAME by 0, " + number, x.does(12, 5, Kinds.NOTHING, number, number), 1);
            check.call("it calls nothing", x, 5, 0, 5, 0, 1, 12);
            check.faults("nothing is against it", x, 5);
            check.due("u by THIS, " + number, x.does(12, 5, Kinds.THIS, number, 6), 1);
            check.call("THIS", x, 5, 0, 26, 0, 3, 13);
            check.due("u by SUPER, " + number, x.does(12, 5, Kinds.SUPER, number, 0), 1);
            check.call("SUPER", x, 5, 0, 25, 0, 2, 0);
        }
    }

    private static void doesAtFirst() {
        check.about("Promise 7: ADD at first 0; CALL if one is told");
        for (int sort = Kinds.BODY; sort <= Kinds.FINAL; sort++) {
            InterfaceRules x = Kinds.with(Kinds.CLASS);
            x.member(1, 3, sort, 0);
            x.member(1, 4, Kinds.BODY, 0);
            x.does(4, 1, sort == Kinds.STATIC ? Kinds.BY_STATIC : Kinds.THIS, 1, 3);
            check.call("SORT " + sort, x, 1, 4, 1, 0, 2, 3);
        }
    }

    private static void doesRefusedChangesNothing() {
        check.about("Promise 7: what is refused changes nothing");
        for (int k : new int[] {0, 4, 5, 6, 7, 8, 10, 11, 12, 13, 14, 15, 16}) {
            int m = k;
            mixed.due("ADD of " + m, x -> x.does(m, 1001, Kinds.NOTHING, 0, 0), Kinds.BAD);
            mixed.due("CALL of " + m, x -> x.does(m, 999, 5, 0, 0), Kinds.BAD);
            mixed.due("NAME of " + m, x -> x.does(m, 999, Kinds.THIS, 0, 10), Kinds.BAD);
            mixed.due("FACE of " + m, x -> x.does(m, 999, Kinds.BY_FACE, 0, 9), Kinds.BAD);
            mixed.due("STATIC of " + m, x -> x.does(m, 999, Kinds.BY_STATIC, 9, 9), Kinds.BAD);
        }
    }

    private static void constantTypes() {
        check.about("Promise 8: BAD: no such type");
        for (int t = 0; t <= 8; t++) {
            InterfaceRules x = Kinds.with(2, 2, 2, 1, 0, 0, 2, 0);
            check.due("of " + t, x.constant(t, 0, 40 + t), 1);
            check.due("its value", x.value(t, 0), 40 + t);
        }
        for (int t : new int[] {-1, 9, 15, 16, Kinds.NONE}) {
            mixed.due("of " + t, x -> x.constant(t, 0, 4), Kinds.BAD);
        }
        fresh.due("of 1", x -> x.constant(1, 0, 4), Kinds.BAD);
        for (int far : Kinds.FAR) {
            mixed.due("of " + far, x -> x.constant(far, 0, 4), Kinds.BAD);
        }
    }

    private static void constantNumbers() {
        check.about("Promise 8: BAD; CONSTANTS 0 .. 3");
        for (int c = 0; c <= 3; c++) {
            check.due("CONSTANT " + c, Worlds.mixed().constant(8, c, 4), 1);
        }
        for (int c : new int[] {-1, 4, 5, Kinds.NONE}) {
            mixed.due("CONSTANT " + c, x -> x.constant(7, c, 4), Kinds.BAD);
            mixed.due("CONSTANT " + c + " of ROOT", x -> x.constant(0, c, 4), Kinds.BAD);
            mixed.due("CONSTANT " + c + " of the last", x -> x.constant(8, c, 4), Kinds.BAD);
        }
        for (int far : Kinds.FAR) {
            mixed.due("CONSTANT " + far, x -> x.constant(7, far, 4), Kinds.BAD);
        }
    }

    private static void constantValues() {
        check.about("Promise 8: CONSTANT c of a type is v");
        for (int v : new int[] {Integer.MIN_VALUE, Integer.MIN_VALUE + 1, -5, -4, -3, -2, -1, 0, 1, 1001, Integer.MAX_VALUE}) {
            InterfaceRules x = Worlds.mixed();
            check.due("told as " + v, x.constant(8, 3, v), 1);
            check.due("seen as " + v, x.value(8, 3), v);
            check.due("seen in itself", x.sees(8, 3), 8);
            check.due("told again", x.constant(8, 3, v), Kinds.NO);
        }
    }

    private static void constantIsTold() {
        check.about("Promise 8: NO: it is told; once for each type");
        int[][] told = {{0, 0}, {1, 1}, {3, 1}, {6, 2}, {5, 3}};
        for (int[] row : told) {
            for (int v : new int[] {-5, 0, 1, 100, Integer.MAX_VALUE}) {
                mixed.due("CONSTANT " + row[1] + " of " + row[0], x -> x.constant(row[0], row[1], v), Kinds.NO);
            }
        }
        InterfaceRules x = Worlds.mixed();
        check.due("another one of the type", x.constant(1, 0, 3), 1);
        check.due("the same one of the next type", x.constant(2, 1, 4), 1);
        check.due("one that it sees in a PARENT", x.constant(5, 0, 5), 1);
        check.due("the PARENT's stays", x.value(0, 0), 100);
    }

    private static void constantFirstOfSeveral() {
        check.about("Promise 8: BAD, NO, of several the first");
        mixed.due("CONSTANT 4 of 5, whose 3 is told", x -> x.constant(5, 4, 4), Kinds.BAD);
        mixed.due("CONSTANT -1 of 1, ahead of which ROOT's are", x -> x.constant(1, -4, 4), Kinds.BAD);
        full.due("CONSTANT 4 of 15, whose 3 is told", x -> x.constant(15, 4, 4), Kinds.BAD);
        full.due("CONSTANT 3 of 15", x -> x.constant(15, 3, 4), Kinds.NO);
    }
}
