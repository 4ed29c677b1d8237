/** Promises 1 to 8: a new object, and what is told to it. */
public final class BuildingTest {
    private static final Check check = new Check();

    public static void main(String[] args) {
        newObject();
        type();
        extend();
        face();
        seal();
        member();
        memberSorts();
        memberFull();
        does();
        constant();
        check.end();
    }

    private static void newObject() {
        InterfaceRules x = new InterfaceRules();
        check.due("new: types", x.told(0), 1);
        check.due("new: members", x.told(1), 3);
        check.due("new: types without faults", x.told(2), 1);
        for (int name = 0; name < 3; name++) {
            check.has("new: ROOT has " + name, x, 0, name, name);
            check.due("new: ROOT runs " + name, x.runs(0, name), name);
        }
        for (int name = 3; name < 10; name++) {
            check.has("new: ROOT has " + name, x, 0, name);
        }
        x.type(Kinds.CLASS);
        for (int name = 0; name < 3; name++) {
            x.member(1, name, Kinds.BODY, 1);
        }
        check.faults("new: only member 2 is FINAL, RESULTS are 0", x, 1, 3, 5);
        check.due("new: nothing added", x.call(0, 2), 0);
        InterfaceRules y = new InterfaceRules();
        check.due("new: objects are apart", y.told(0), 1);
        check.due("new: members are apart", y.told(1), 3);
    }

    private static void type() {
        InterfaceRules x = new InterfaceRules();
        for (int kind : new int[] {-1, 3, Kinds.NONE, Integer.MIN_VALUE, Integer.MAX_VALUE}) {
            check.due("type: wrong kind", x.type(kind), Kinds.BAD);
        }
        for (int t = 1; t < 16; t++) {
            check.due("type: number", x.type(t % 3), t);
        }
        check.due("type: one too many", x.type(0), Kinds.FULL);
        check.due("type: face too many", x.type(2), Kinds.FULL);
        check.due("type: BAD is ahead of FULL", x.type(3), Kinds.BAD);
        check.due("type: 16 types", x.told(0), 16);
        check.due("type: no type 16", x.below(16, 0), Kinds.BAD);
        check.due("type: a class is 3", x.call(3, 0), 0);
        check.due("type: an open one is 1", x.call(1, 0), Kinds.BAD);
        check.due("type: a face is 2", x.functional(2), Kinds.NONE);
        check.due("type: a class's SUPER is ROOT at first", x.extend(3, 1), 0);
    }

    private static void extend() {
        InterfaceRules x = Kinds.with(Kinds.CLASS, Kinds.OPEN, Kinds.FACE, Kinds.CLASS);
        check.due("extend: it was ROOT", x.extend(4, 2), 0);
        check.due("extend: it was 2", x.extend(4, 1), 2);
        check.due("extend: the same again", x.extend(4, 1), 1);
        check.due("extend: an open one", x.extend(2, 1), 0);
        check.due("extend: back to ROOT", x.extend(2, 0), 1);
        check.due("extend: below", x.below(4, 1), 1);
        check.due("extend: no longer below", x.below(4, 2), 0);
        check.due("extend: ROOT", x.extend(0, 0), Kinds.BAD);
        check.due("extend: a face", x.extend(3, 0), Kinds.BAD);
        check.due("extend: by a face", x.extend(4, 3), Kinds.BAD);
        check.due("extend: itself", x.extend(4, 4), Kinds.BAD);
        check.due("extend: a greater number", x.extend(1, 2), Kinds.BAD);
        check.due("extend: no such type", x.extend(5, 1), Kinds.BAD);
        check.due("extend: no such SUPER", x.extend(4, -1), Kinds.BAD);
        for (int far : Kinds.FAR) {
            check.due("extend: far type", x.extend(far, 0), Kinds.BAD);
            check.due("extend: far SUPER", x.extend(4, far), Kinds.BAD);
        }
        check.due("extend: refused ones change nothing", x.extend(4, 0), 1);
    }

    private static void face() {
        InterfaceRules x = Kinds.with(Kinds.FACE, Kinds.FACE, Kinds.FACE, Kinds.FACE, Kinds.FACE, Kinds.FACE, Kinds.CLASS);
        for (int f = 1; f <= 4; f++) {
            check.due("face: how many", x.face(7, f), f);
        }
        check.due("face: there is no fifth", x.face(7, 5), Kinds.FULL);
        check.due("face: NO is ahead of FULL", x.face(7, 4), Kinds.NO);
        check.due("face: BAD is ahead of FULL", x.face(7, 7), Kinds.BAD);
        check.due("face: FULL changes nothing", x.below(7, 5), 0);
        check.due("face: of a face", x.face(6, 5), 1);
        check.due("face: there already", x.face(6, 5), Kinds.NO);
        check.due("face: another", x.face(6, 1), 2);
        check.due("face: ROOT", x.face(0, 1), Kinds.BAD);
        check.due("face: itself", x.face(5, 5), Kinds.BAD);
        check.due("face: a greater number", x.face(1, 2), Kinds.BAD);
        check.due("face: a class", x.face(7, 0), Kinds.BAD);
        check.due("face: no such type", x.face(8, 1), Kinds.BAD);
        check.due("face: no such face", x.face(6, -1), Kinds.BAD);
        for (int far : Kinds.FAR) {
            check.due("face: far type", x.face(far, 1), Kinds.BAD);
            check.due("face: far face", x.face(7, far), Kinds.BAD);
        }
        check.due("face: refused ones change nothing", x.face(6, 2), 3);
        check.due("face: below", x.below(6, 5), 1);
        InterfaceRules y = Kinds.with(Kinds.FACE, Kinds.OPEN);
        check.due("face: of an open class", y.face(2, 1), 1);
    }

    private static void seal() {
        InterfaceRules x = Kinds.with(Kinds.CLASS, Kinds.FACE, Kinds.CLASS, Kinds.FACE, Kinds.OPEN);
        x.face(3, 2);
        x.face(4, 2);
        x.face(5, 2);
        check.faults("seal: not at first", x, 3);
        check.due("seal: a class", x.seal(1, 3), Kinds.BAD);
        check.due("seal: ROOT", x.seal(0, Kinds.NONE), Kinds.BAD);
        check.due("seal: itself", x.seal(2, 2), Kinds.BAD);
        check.due("seal: a lesser number", x.seal(2, 1), Kinds.BAD);
        check.due("seal: no such type", x.seal(2, 6), Kinds.BAD);
        check.due("seal: -1 is no type", x.seal(2, -1), Kinds.BAD);
        for (int far : Kinds.FAR) {
            check.due("seal: far face", x.seal(far, 3), Kinds.BAD);
            check.due("seal: far type", x.seal(2, far), Kinds.BAD);
        }
        check.due("seal: NONE is no face", x.seal(Kinds.NONE, Kinds.NONE), Kinds.BAD);
        check.faults("seal: what is refused seals nothing", x, 3);
        check.due("seal: for a class", x.seal(2, 3), 1);
        check.faults("seal: 3 is permitted", x, 3);
        check.faults("seal: 4 is not", x, 4, 13, 2);
        check.faults("seal: 5 is not", x, 5, 13, 2);
        check.due("seal: for a face", x.seal(2, 4), 1);
        check.due("seal: again", x.seal(2, 4), 1);
        check.due("seal: for no one more", x.seal(2, Kinds.NONE), 1);
        check.faults("seal: 3 stays permitted", x, 3);
        check.faults("seal: 4 is permitted", x, 4);
        check.faults("seal: 5 is still not", x, 5, 13, 2);
        check.due("seal: one that is no face of 4's", x.seal(4, 5), 1);
    }

    private static void member() {
        InterfaceRules x = Kinds.with(Kinds.CLASS, Kinds.FACE);
        check.due("member: the first", x.member(1, 0, Kinds.BODY, 0), 3);
        check.due("member: the next", x.member(2, 0, Kinds.ABSTRACT, 3), 4);
        check.due("member: there is one", x.member(1, 0, Kinds.BODY, 0), Kinds.NO);
        check.due("member: there is one, other sort", x.member(1, 0, Kinds.STATIC, 2), Kinds.NO);
        check.due("member: ROOT", x.member(0, 5, Kinds.BODY, 0), Kinds.BAD);
        check.due("member: no such type", x.member(3, 5, Kinds.BODY, 0), Kinds.BAD);
        check.due("member: no such name", x.member(1, 10, Kinds.BODY, 0), Kinds.BAD);
        check.due("member: name -1", x.member(1, -1, Kinds.BODY, 0), Kinds.BAD);
        check.due("member: no such sort", x.member(1, 5, 5, 0), Kinds.BAD);
        check.due("member: sort -1", x.member(1, 5, -1, 0), Kinds.BAD);
        check.due("member: no such result", x.member(1, 5, Kinds.BODY, 4), Kinds.BAD);
        check.due("member: result -1", x.member(1, 5, Kinds.BODY, -1), Kinds.BAD);
        check.due("member: BAD is ahead of NO", x.member(1, 0, Kinds.ABSTRACT, 0), Kinds.BAD);
        check.due("member: a bad result is ahead of NO", x.member(1, 0, Kinds.BODY, 4), Kinds.BAD);
        for (int far : Kinds.FAR) {
            check.due("member: far type", x.member(far, 5, Kinds.BODY, 0), Kinds.BAD);
            check.due("member: far name", x.member(1, far, Kinds.BODY, 0), Kinds.BAD);
            check.due("member: far sort", x.member(1, 5, far, 0), Kinds.BAD);
            check.due("member: far result", x.member(1, 5, Kinds.BODY, far), Kinds.BAD);
        }
        check.due("member: refused ones are not there", x.told(1), 5);
        check.due("member: name 9, result 3", x.member(1, 9, Kinds.BODY, 3), 5);
    }

    private static void memberSorts() {
        int[][] taken = {
            {Kinds.CLASS, 0, 1, 1, 1, 1},
            {Kinds.OPEN, 1, 1, 1, 1, 1},
            {Kinds.FACE, 1, 1, 1, 1, 0}};
        for (int[] row : taken) {
            InterfaceRules x = Kinds.with(row[0]);
            int next = 3;
            for (int sort = 0; sort < 5; sort++) {
                boolean isTaken = row[1 + sort] == 1;
                check.due("member: sort " + sort + " in kind " + row[0], x.member(1, 3 + sort, sort, 0), isTaken ? next : Kinds.BAD);
                next += isTaken ? 1 : 0;
            }
        }
    }

    private static void memberFull() {
        InterfaceRules x = Kinds.with(0, 0, 0, 0, 0, 0, 0);
        for (int m = 3; m < 60; m++) {
            check.due("member: number", x.member(1 + m / 10, m % 10, Kinds.BODY, 0), m);
        }
        check.due("member: one too many", x.member(7, 0, Kinds.BODY, 0), Kinds.FULL);
        check.due("member: NO is ahead of FULL", x.member(6, 9, Kinds.BODY, 0), Kinds.NO);
        check.due("member: BAD is ahead of FULL", x.member(7, 0, Kinds.ABSTRACT, 0), Kinds.BAD);
        check.due("member: 60 members", x.told(1), 60);
        check.due("member: FULL changes nothing", x.runs(7, 0), 0);
    }

    private static void does() {
        InterfaceRules x = Kinds.with(Kinds.FACE, Kinds.CLASS, Kinds.OPEN);
        x.member(1, 5, Kinds.ABSTRACT, 0);
        x.member(1, 6, Kinds.BODY, 0);
        x.member(2, 5, Kinds.BODY, 0);
        check.due("does: ABSTRACT", x.does(3, 1, 0, 0, 0), Kinds.BAD);
        check.due("does: nothing but add", x.does(5, 12, Kinds.NOTHING, 99, 99), 1);
        check.call("does: it adds", x, 2, 5, 12, 0, 1, 5);
        check.due("does: most", x.does(5, 1000, 0, 0, 0), 1);
        check.due("does: least", x.does(5, -1000, 0, 0, 0), 1);
        check.due("does: more than most", x.does(5, 1001, 0, 0, 0), Kinds.BAD);
        check.due("does: less than least", x.does(5, -1001, 0, 0, 0), Kinds.BAD);
        check.due("does: no such member", x.does(6, 1, 0, 0, 0), Kinds.BAD);
        check.due("does: member -1", x.does(-1, 1, 0, 0, 0), Kinds.BAD);
        check.due("does: no such call", x.does(5, 1, 5, 0, 0), Kinds.BAD);
        check.due("does: call -1", x.does(5, 1, -1, 0, 0), Kinds.BAD);
        for (int call = 1; call <= 4; call++) {
            check.due("does: no such name by " + call, x.does(5, 1, call, 1, 10), Kinds.BAD);
            check.due("does: name -1 by " + call, x.does(5, 1, call, 1, -1), Kinds.BAD);
        }
        check.due("does: FACE of a class", x.does(5, 1, Kinds.BY_FACE, 2, 6), Kinds.BAD);
        check.due("does: FACE of ROOT", x.does(5, 1, Kinds.BY_FACE, 0, 6), Kinds.BAD);
        check.due("does: FACE of none", x.does(5, 1, Kinds.BY_FACE, 4, 6), Kinds.BAD);
        check.due("does: STATIC of none", x.does(5, 1, Kinds.BY_STATIC, 4, 6), Kinds.BAD);
        check.due("does: STATIC of -1", x.does(5, 1, Kinds.BY_STATIC, -1, 6), Kinds.BAD);
        for (int far : Kinds.FAR) {
            check.due("does: far member", x.does(far, 1, 0, 0, 0), Kinds.BAD);
            check.due("does: far add", x.does(5, far == -5 || far == -3 || far == -2 ? 2000 : far, 0, 0, 0), Kinds.BAD);
            check.due("does: far call", x.does(5, 1, far, 0, 0), Kinds.BAD);
            check.due("does: far face", x.does(5, 1, Kinds.BY_FACE, far, 0), Kinds.BAD);
            check.due("does: far type", x.does(5, 1, Kinds.BY_STATIC, far, 0), Kinds.BAD);
            check.due("does: far name", x.does(5, 1, Kinds.THIS, 0, far), Kinds.BAD);
        }
        check.call("does: refused ones change nothing", x, 2, 5, -1000, 0, 1, 5);
        check.due("does: u is not looked at by THIS", x.does(5, 1, Kinds.THIS, 99, 0), 1);
        check.due("does: u is not looked at by SUPER", x.does(5, 1, Kinds.SUPER, -99, 0), 1);
        check.due("does: a FACE", x.does(5, 1, Kinds.BY_FACE, 1, 6), 1);
        check.due("does: STATIC of a greater number", x.does(5, 1, Kinds.BY_STATIC, 3, 9), 1);
        check.due("does: STATIC of a face", x.does(4, 1, Kinds.BY_STATIC, 1, 9), 1);
        for (int m = 0; m < 3; m++) {
            check.due("does: of ROOT", x.does(m, 10 + m, 0, 0, 0), 1);
            check.due("does: of ROOT, called", x.call(2, m), 10 + m);
        }
        x.does(5, 3, Kinds.THIS, 0, 0);
        check.call("does: told anew", x, 2, 5, 13, 0, 2, 0);
        x.does(5, 4, 0, 0, 0);
        check.call("does: no call any more", x, 2, 5, 4, 0, 1, 5);
    }

    private static void constant() {
        InterfaceRules x = Kinds.with(Kinds.CLASS, Kinds.FACE);
        check.due("constant: of a class", x.constant(1, 0, 5), 1);
        check.due("constant: of a face", x.constant(2, 3, Integer.MIN_VALUE), 1);
        check.due("constant: of ROOT", x.constant(0, 1, Integer.MAX_VALUE), 1);
        check.due("constant: is 0", x.constant(1, 2, 0), 1);
        check.due("constant: told", x.constant(1, 0, 6), Kinds.NO);
        check.due("constant: told with the same", x.constant(1, 0, 5), Kinds.NO);
        check.due("constant: told as 0", x.constant(1, 2, 7), Kinds.NO);
        check.due("constant: no such", x.constant(1, 4, 6), Kinds.BAD);
        check.due("constant: -1", x.constant(1, -1, 6), Kinds.BAD);
        check.due("constant: no such type", x.constant(3, 0, 6), Kinds.BAD);
        for (int far : Kinds.FAR) {
            check.due("constant: far type", x.constant(far, 0, 6), Kinds.BAD);
            check.due("constant: far constant", x.constant(1, far, 6), Kinds.BAD);
        }
        check.due("constant: NO changes nothing", x.value(1, 0), 5);
        check.due("constant: told as 0 stays 0", x.value(1, 2), 0);
        check.due("constant: least", x.value(2, 3), Integer.MIN_VALUE);
        check.due("constant: most", x.value(0, 1), Integer.MAX_VALUE);
    }
}
