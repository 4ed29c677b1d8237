/** Promises 16 and 17, sentence by sentence: the last that is allowed, the first that isn't, why a call stops. */
public final class CallEdgesTest {
    private static final Check check = new Check();
    private static final Refusals fresh = new Refusals(check, Worlds::fresh);
    private static final Refusals mixed = new Refusals(check, Worlds::mixed);
    private static final Refusals full = new Refusals(check, Worlds::full);

    public static void main(String[] args) {
        types();
        names();
        notOpen();
        badKeepsTheLatest();
        stopsAtOnce();
        addedAheadOfAStop();
        noObjectInStatics();
        superInRootAndFaces();
        deepByEachCall();
        deepIsTheThirtyFirst();
        deepIsForMembersAlone();
        sums();
        latestWhats();
        latestWithoutOne();
        latestEntered();
        latestLast();
        latestIsOfThatTime();
        useOf512Calls();
        check.end();
    }

    private static void types() {
        check.about("Promise 16: BAD: no such type");
        check.call("ROOT", Worlds.mixed(), 0, 0, 20, 0, 1, 0);
        check.call("the last type", Worlds.mixed(), 8, 7, 6, 0, 1, 8);
        check.call("the last type of all", Worlds.full(), 15, 5, 0, 0, 1, 47);
        for (int t : new int[] {-1, 9, 15, 16, Kinds.NONE}) {
            mixed.due("on " + t, x -> x.call(t, 0), Kinds.BAD);
        }
        fresh.due("on 1", x -> x.call(1, 0), Kinds.BAD);
        full.due("on 16", x -> x.call(16, 0), Kinds.BAD);
        for (int far : Kinds.FAR) {
            mixed.due("on " + far, x -> x.call(far, 0), Kinds.BAD);
        }
    }

    private static void names() {
        check.about("Promise 16: BAD: NAME");
        check.call("NAME 0", Worlds.mixed(), 5, 0, 30, 0, 3, 13);
        check.call("NAME 9", Worlds.mixed(), 6, 9, 28, 0, 2, 0);
        for (int name : new int[] {-1, 10, 11, Kinds.NONE}) {
            mixed.due("NAME " + name, x -> x.call(6, name), Kinds.BAD);
            fresh.due("NAME " + name + " on ROOT", x -> x.call(0, name), Kinds.BAD);
        }
        for (int far : Kinds.FAR) {
            mixed.due("NAME " + far, x -> x.call(6, far), Kinds.BAD);
        }
    }

    private static void notOpen() {
        check.about("Promise 16: of a class that is not OPEN");
        for (int t : new int[] {1, 2, 3, 4, 7}) {
            for (int name : new int[] {0, 3, 4, 8, 9}) {
                mixed.due("NAME " + name + " on " + t, x -> x.call(t, name), Kinds.BAD);
            }
        }
    }

    private static void badKeepsTheLatest() {
        check.about("Promise 17: of the latest call() that was not BAD");
        InterfaceRules x = Worlds.mixed();
        check.latest("the one of the world", x, 0, 6, 5);
        for (int[] row : new int[][] {{4, 8}, {1, 4}, {9, 0}, {-1, 0}, {6, 10}, {6, -1}}) {
            check.due("BAD", x.call(row[0], row[1]), Kinds.BAD);
            check.latest("the same", x, 0, 6, 5);
        }
        check.due("one that STOPS at once is not BAD", x.call(8, 9), 0);
        check.latest("another", x, Kinds.MISSING, 0, Kinds.NONE);
    }

    private static void stopsAtOnce() {
        check.about("Promise 16: 0 also if it STOPS at once");
        InterfaceRules x = Kinds.with(Kinds.FACE, Kinds.FACE, Kinds.CLASS);
        x.face(3, 1);
        x.face(3, 2);
        x.member(1, 4, Kinds.BODY, 0);
        x.member(2, 4, Kinds.BODY, 0);
        x.member(2, 5, Kinds.ABSTRACT, 0);
        x.does(3, 50, Kinds.NOTHING, 0, 0);
        check.call("MISSING", x, 3, 3, 0, Kinds.MISSING, 0, Kinds.NONE);
        check.call("CLASH", x, 3, 4, 0, Kinds.CLASH, 0, Kinds.NONE);
        check.call("UNDONE", x, 3, 5, 0, Kinds.UNDONE, 0, Kinds.NONE);
    }

    private static void addedAheadOfAStop() {
        check.about("Promise 16: what was added ahead of a STOP counts");
        InterfaceRules x = Kinds.with(Kinds.FACE, Kinds.FACE, Kinds.CLASS);
        x.face(3, 1);
        x.face(3, 2);
        x.member(1, 4, Kinds.BODY, 0);
        x.member(2, 4, Kinds.BODY, 0);
        x.member(2, 5, Kinds.ABSTRACT, 0);
        x.member(3, 6, Kinds.BODY, 0);
        int[] why = {0, 0, 0, Kinds.MISSING, Kinds.CLASH, Kinds.UNDONE};
        for (int name = 3; name <= 5; name++) {
            x.does(6, -7, Kinds.THIS, 0, name);
            check.call("NAME " + name, x, 3, 6, -7, why[name], 1, 6);
        }
    }

    private static void noObjectInStatics() {
        check.about("Terms 5: in that no object is there: THIS, SUPER, FACE are MISSING");
        InterfaceRules x = Kinds.with(Kinds.FACE, Kinds.CLASS);
        x.face(2, 1);
        x.member(1, 0, Kinds.BODY, 0);
        x.member(2, 3, Kinds.BODY, 0);
        x.member(2, 4, Kinds.STATIC, 0);
        x.does(4, 1, Kinds.BY_STATIC, 2, 4);
        for (int call = Kinds.THIS; call <= Kinds.BY_FACE; call++) {
            x.does(5, 2, call, 1, 0);
            check.call("CALL " + call, x, 2, 3, 3, Kinds.MISSING, 2, 5);
        }
        x.does(5, 2, Kinds.BY_STATIC, 2, 9);
        check.call("without such a STATIC one", x, 2, 3, 3, Kinds.MISSING, 2, 5);
        x.does(5, 2, Kinds.BY_STATIC, 0, 0);
        check.call("ROOT has no STATIC one", x, 2, 3, 3, Kinds.MISSING, 2, 5);
        x.does(5, 2, Kinds.NOTHING, 0, 0);
        check.call("it did not STOP", x, 2, 3, 3, 0, 2, 5);
    }

    private static void superInRootAndFaces() {
        check.about("Terms 5: MISSING also SUPER in a FACE or ROOT");
        InterfaceRules x = Kinds.with(Kinds.FACE, Kinds.CLASS);
        x.face(2, 1);
        x.member(1, 3, Kinds.BODY, 0);
        for (int name = 0; name <= 9; name++) {
            x.does(3, 5, Kinds.SUPER, 0, name);
            check.call("in a FACE, NAME " + name, x, 2, 3, 5, Kinds.MISSING, 1, 3);
            x.does(1, 6, Kinds.SUPER, 0, name);
            check.call("in ROOT, NAME " + name, x, 2, 1, 6, Kinds.MISSING, 1, 1);
        }
    }

    private static void deepByEachCall() {
        check.about("Terms 5: DEEP, by each CALL");
        InterfaceRules x = Kinds.with(Kinds.FACE, Kinds.CLASS, Kinds.CLASS);
        x.face(3, 1);
        x.extend(3, 2);
        x.member(1, 3, Kinds.BODY, 0);
        x.does(3, 1, Kinds.BY_FACE, 1, 3);
        check.call("FACE", x, 3, 3, 30, Kinds.DEEP, 30, 3);
        x.member(2, 4, Kinds.BODY, 0);
        x.member(3, 4, Kinds.BODY, 0);
        x.does(4, 1, Kinds.THIS, 0, 4);
        x.does(5, 2, Kinds.SUPER, 0, 4);
        check.call("SUPER and THIS", x, 3, 4, 45, Kinds.DEEP, 30, 4);
        x.member(3, 5, Kinds.PRIVATE, 0);
        x.does(6, 3, Kinds.THIS, 0, 5);
        x.does(5, 2, Kinds.THIS, 0, 5);
        check.call("THIS, a PRIVATE one", x, 3, 4, 89, Kinds.DEEP, 30, 6);
        x.member(3, 6, Kinds.STATIC, 0);
        x.does(7, 4, Kinds.BY_STATIC, 3, 6);
        x.does(5, 2, Kinds.BY_STATIC, 3, 6);
        check.call("STATIC", x, 3, 4, 118, Kinds.DEEP, 30, 7);
    }

    /** A BODY of NAME 0 in class 5, and STATIC ones of classes 1 to 4 behind it: each adds 1 and calls the next. */
    private static InterfaceRules chainOf(int length) {
        InterfaceRules x = Kinds.with(0, 0, 0, 0, 0);
        x.member(5, 0, Kinds.BODY, 0);
        for (int k = 0; k < length; k++) {
            if (k > 0) {
                x.member(1 + k / 10, k % 10, Kinds.STATIC, 0);
            }
            boolean isLast = k == length - 1;
            x.does(3 + k, 1, isLast ? Kinds.NOTHING : Kinds.BY_STATIC, 1 + (k + 1) / 10, (k + 1) % 10);
        }
        return x;
    }

    private static void deepIsTheThirtyFirst() {
        check.about("Terms 5: DEEP: a 31st member would be entered");
        for (int length = 1; length <= 33; length++) {
            int entered = Math.min(length, 30);
            check.call("of " + length, chainOf(length), 5, 0, entered, length > 30 ? Kinds.DEEP : 0, entered, 2 + entered);
        }
    }

    private static void deepIsForMembersAlone() {
        check.about("Terms 5: DEEP: a member would be entered");
        for (int length = 29; length <= 31; length++) {
            InterfaceRules x = chainOf(length);
            x.does(2 + length, 1, Kinds.BY_STATIC, 5, 9);
            int entered = Math.min(length, 30);
            int why = length > 30 ? Kinds.DEEP : Kinds.MISSING;
            check.call("of " + length + ", then none", x, 5, 0, entered, why, entered, 2 + entered);
        }
    }

    private static void sums() {
        check.about("Promise 16: the sum, of the least and the most that 30 members add");
        for (int add : new int[] {-1000, 0, 1000}) {
            InterfaceRules x = Kinds.with(Kinds.CLASS);
            x.does(0, add, Kinds.THIS, 0, 0);
            check.call("ADD " + add, x, 1, 0, 30 * add, Kinds.DEEP, 30, 0);
        }
    }

    private static void latestWhats() {
        check.about("Promise 17: BAD: what");
        check.latest("what 0 to 2", Worlds.mixed(), 0, 6, 5);
        for (int what : new int[] {-1, 3, 4, Kinds.NONE}) {
            mixed.due("what " + what, x -> x.latest(what), Kinds.BAD);
        }
        for (int far : Kinds.FAR) {
            mixed.due("what " + far, x -> x.latest(far), Kinds.BAD);
        }
    }

    private static void latestWithoutOne() {
        check.about("Promise 17: BAD: or there was none");
        for (int k = -1; k <= 3; k++) {
            int what = k;
            fresh.due("what " + what, x -> x.latest(what), Kinds.BAD);
        }
        InterfaceRules x = Kinds.with(Kinds.CLASS, Kinds.OPEN);
        x.call(2, 0);
        x.call(1, 10);
        for (int what = 0; what <= 2; what++) {
            check.due("behind BAD ones, what " + what, x.latest(what), Kinds.BAD);
        }
    }

    private static void latestEntered() {
        check.about("Promise 17: 1 how many members were entered");
        InterfaceRules x = Kinds.with(Kinds.CLASS);
        check.call("none", x, 1, 9, 0, Kinds.MISSING, 0, Kinds.NONE);
        check.call("one", x, 1, 1, 0, 0, 1, 1);
        x.does(1, 0, Kinds.THIS, 0, 2);
        check.call("two", x, 1, 1, 0, 0, 2, 2);
        x.does(2, 0, Kinds.THIS, 0, 1);
        check.call("30", x, 1, 1, 0, Kinds.DEEP, 30, 2);
    }

    private static void latestLast() {
        check.about("Promise 17: 2 the last of these (NONE)");
        InterfaceRules x = Worlds.full();
        check.call("member 0", x, 11, 0, 0, 0, 1, 0);
        check.call("member 59", x, 12, 6, 8, 0, 1, 59);
        check.call("NONE", x, 12, 9, 0, Kinds.MISSING, 0, Kinds.NONE);
    }

    private static void latestIsOfThatTime() {
        check.about("Promise 17: of the latest call()");
        InterfaceRules x = Worlds.mixed();
        x.does(5, 1, Kinds.THIS, 0, 9);
        x.does(15, 1, Kinds.NOTHING, 0, 0);
        x.extend(6, 0);
        x.member(6, 9, Kinds.BODY, 0);
        x.runs(6, 3);
        x.has(6, 3, Kinds.NONE);
        x.faults(6, Kinds.NONE, 0);
        x.told(2);
        check.latest("what was changed since is not in it", x, 0, 6, 5);
        check.call("but in the next", x, 6, 3, 1, 0, 1, 15);
    }

    private static void useOf512Calls() {
        check.about("An object is used for at most 512 calls");
        InterfaceRules x = Kinds.with(Kinds.CLASS);
        x.member(1, 3, Kinds.BODY, 0);
        for (int k = 3; k <= 511; k += 2) {
            int add = k % 1001;
            check.due("call " + k, x.does(3, add, Kinds.NOTHING, 0, 0), 1);
            check.due("call " + (k + 1), x.call(1, 3), add);
        }
    }
}
