/** Promise 11: the faults of a type, each code, their order, and promise 18's count of types without them. */
public final class FaultsTest {
    private static final Check check = new Check();

    public static void main(String[] args) {
        wrongInputs();
        againstRootInFaces();
        againstGiven();
        againstLostOnes();
        serving();
        inheritedResults();
        clashAndUndone();
        staticCallers();
        thisAndSuper();
        superFaces();
        statics();
        sealedFaces();
        order();
        told();
        check.end();
    }

    private static void wrongInputs() {
        InterfaceRules x = Kinds.with(Kinds.FACE);
        x.member(1, 0, Kinds.BODY, 0);
        check.faults("faults: one", x, 1, 1, 3);
        check.due("faults: i -1", x.faults(1, -1, 0), Kinds.BAD);
        check.due("faults: what 2", x.faults(1, 0, 2), Kinds.BAD);
        check.due("faults: what -1", x.faults(1, 0, -1), Kinds.BAD);
        check.due("faults: what is not looked at with NONE", x.faults(1, Kinds.NONE, 77), 1);
        check.due("faults: no such type", x.faults(2, Kinds.NONE, 0), Kinds.BAD);
        check.due("faults: type -1", x.faults(-1, Kinds.NONE, 0), Kinds.BAD);
        for (int far : Kinds.FAR) {
            check.due("faults: far type", x.faults(far, Kinds.NONE, 0), Kinds.BAD);
            check.due("faults: far i", x.faults(1, far, 0), Kinds.BAD);
            check.due("faults: far what", x.faults(1, 0, far), Kinds.BAD);
        }
    }

    private static void againstRootInFaces() {
        int[] sorts = {Kinds.ABSTRACT, Kinds.BODY, Kinds.STATIC, Kinds.PRIVATE};
        for (int name = 0; name < 4; name++) {
            for (int sort : sorts) {
                InterfaceRules x = Kinds.with(Kinds.FACE);
                x.member(1, name, sort, 0);
                boolean isFault = name < 2 && sort == Kinds.BODY || name == 2 && (sort == Kinds.ABSTRACT || sort == Kinds.BODY);
                check.due("1: name " + name + ", sort " + sort, x.faults(1, Kinds.NONE, 0), isFault ? 1 : 0);
                check.due("1: its code", x.faults(1, 0, 0), isFault ? 1 : Kinds.BAD);
                check.due("1: its number", x.faults(1, 0, 1), isFault ? 3 : Kinds.BAD);
            }
        }
        InterfaceRules y = Kinds.with(Kinds.CLASS);
        y.member(1, 0, Kinds.BODY, 0);
        y.member(1, 1, Kinds.FINAL, 0);
        check.faults("1: not in classes", y, 1);
    }

    private static void againstGiven() {
        InterfaceRules x = Kinds.with(Kinds.CLASS, Kinds.CLASS);
        x.extend(2, 1);
        x.member(1, 3, Kinds.BODY, 1);
        x.member(1, 4, Kinds.STATIC, 1);
        x.member(1, 5, Kinds.BODY, 1);
        x.member(1, 6, Kinds.FINAL, 1);
        x.member(1, 7, Kinds.BODY, 1);
        x.member(1, 8, Kinds.STATIC, 1);
        x.member(1, 9, Kinds.PRIVATE, 1);
        x.member(2, 3, Kinds.PRIVATE, 2);
        x.member(2, 4, Kinds.BODY, 2);
        x.member(2, 5, Kinds.STATIC, 2);
        x.member(2, 6, Kinds.BODY, 2);
        x.member(2, 7, Kinds.BODY, 2);
        x.member(2, 8, Kinds.STATIC, 2);
        x.member(2, 9, Kinds.BODY, 2);
        check.faults("2 to 5: the first that fits", x, 2, 4, 10, 2, 11, 2, 12, 3, 13, 5, 14, 5, 15);
        x.type(Kinds.CLASS);
        x.extend(3, 1);
        x.member(3, 4, Kinds.PRIVATE, 1);
        x.member(3, 6, Kinds.STATIC, 1);
        check.faults("4 is ahead of 2, 2 ahead of 3", x, 3, 4, 17, 2, 18);
        x.type(Kinds.CLASS);
        x.member(4, 2, Kinds.BODY, 0);
        check.faults("3: ROOT's", x, 4, 3, 19);
    }

    private static void againstLostOnes() {
        InterfaceRules x = Kinds.with(Kinds.FACE, Kinds.FACE, Kinds.CLASS, Kinds.CLASS);
        x.face(2, 1);
        x.member(1, 3, Kinds.ABSTRACT, 1);
        x.member(2, 3, Kinds.ABSTRACT, 2);
        x.member(3, 3, Kinds.BODY, 2);
        x.extend(4, 3);
        x.face(4, 1);
        x.face(4, 2);
        check.has("5: two are lost", x, 4, 3, 5);
        x.member(4, 3, Kinds.BODY, 0);
        check.faults("5: of each given one, lost or not", x, 4, 5, 6, 5, 6, 5, 6);
        check.faults("5: of a face", x, 2, 5, 4);
    }

    private static void serving() {
        for (int r = 0; r < 4; r++) {
            for (int q = 0; q < 4; q++) {
                InterfaceRules x = Kinds.with(Kinds.CLASS, Kinds.CLASS);
                x.extend(2, 1);
                x.member(1, 3, Kinds.BODY, q);
                x.member(2, 3, Kinds.BODY, r);
                boolean serves = r == q || q == 0 || r == 3 && q == 1;
                check.due("5: " + r + " for " + q, x.faults(2, Kinds.NONE, 0), serves ? 0 : 1);
            }
        }
    }

    private static void inheritedResults() {
        InterfaceRules x = Kinds.with(Kinds.FACE, Kinds.FACE, Kinds.FACE, Kinds.FACE, Kinds.OPEN);
        x.member(1, 3, Kinds.ABSTRACT, 1);
        x.member(2, 3, Kinds.ABSTRACT, 2);
        x.member(3, 3, Kinds.ABSTRACT, 3);
        x.face(4, 1);
        x.face(4, 3);
        check.faults("6: one SERVES for all", x, 4);
        x.face(4, 2);
        check.faults("6: none SERVES for all", x, 4, 6, 3);
        x.face(5, 1);
        x.face(5, 2);
        check.faults("6: in an open class", x, 5, 6, 3);
        x.member(5, 3, Kinds.ABSTRACT, 3);
        check.faults("6: not with an own member", x, 5, 5, 6);
        InterfaceRules y = Kinds.with(Kinds.FACE, Kinds.CLASS, Kinds.CLASS);
        y.extend(3, 2);
        y.face(3, 1);
        y.member(1, 3, Kinds.BODY, 1);
        y.member(2, 3, Kinds.STATIC, 2);
        check.faults("6: a STATIC one counts", y, 3, 6, 3);
    }

    private static void clashAndUndone() {
        InterfaceRules x = Kinds.with(Kinds.FACE, Kinds.FACE, Kinds.FACE, Kinds.OPEN, Kinds.CLASS);
        x.member(1, 3, Kinds.BODY, 0);
        x.member(2, 3, Kinds.ABSTRACT, 0);
        x.member(2, 9, Kinds.ABSTRACT, 0);
        x.member(1, 8, Kinds.BODY, 1);
        x.member(2, 8, Kinds.BODY, 2);
        for (int t = 3; t <= 5; t++) {
            x.face(t, 1);
            x.face(t, 2);
        }
        check.faults("7: in a face", x, 3, 7, 3, 6, 8, 7, 8);
        check.faults("7: in an open class", x, 4, 7, 3, 6, 8, 7, 8);
        check.faults("8: in a class", x, 5, 7, 3, 6, 8, 7, 8, 8, 9);
        check.faults("8: not for an own member", x, 2);
        InterfaceRules y = Kinds.with(Kinds.OPEN, Kinds.CLASS);
        y.extend(2, 1);
        y.member(1, 0, Kinds.ABSTRACT, 0);
        check.faults("8: by a SUPER", y, 2, 8, 0);
        check.faults("8: not in an open class", y, 1);
    }

    private static void staticCallers() {
        InterfaceRules x = Kinds.with(Kinds.FACE, Kinds.CLASS);
        x.face(2, 1);
        x.member(1, 3, Kinds.BODY, 0);
        x.member(2, 4, Kinds.STATIC, 0);
        x.does(4, 0, Kinds.THIS, 0, 3);
        check.faults("9: THIS", x, 2, 9, 4);
        x.does(4, 0, Kinds.SUPER, 0, 0);
        check.faults("9: SUPER", x, 2, 9, 4);
        x.does(4, 0, Kinds.BY_FACE, 1, 3);
        check.faults("9: FACE", x, 2, 9, 4);
        x.does(4, 0, Kinds.THIS, 0, 9);
        check.faults("9: ahead of 10", x, 2, 9, 4);
        x.does(4, 0, Kinds.BY_STATIC, 2, 4);
        check.faults("9: not by STATIC", x, 2);
        x.does(4, 0, Kinds.NOTHING, 0, 0);
        check.faults("9: not without a call", x, 2);
    }

    private static void thisAndSuper() {
        InterfaceRules x = Kinds.with(Kinds.FACE, Kinds.OPEN, Kinds.CLASS);
        x.extend(3, 2);
        x.member(1, 3, Kinds.BODY, 0);
        x.member(2, 4, Kinds.ABSTRACT, 0);
        x.member(3, 4, Kinds.BODY, 0);
        x.does(5, 0, Kinds.THIS, 0, 9);
        check.faults("10: THIS without one", x, 3, 10, 5);
        x.does(5, 0, Kinds.THIS, 0, 4);
        check.faults("10: THIS with its own", x, 3);
        x.member(3, 9, Kinds.PRIVATE, 0);
        x.does(5, 0, Kinds.THIS, 0, 9);
        check.faults("10: THIS with a PRIVATE one", x, 3);
        x.does(5, 0, Kinds.SUPER, 0, 4);
        check.faults("10: SUPER runs nothing, UNDONE", x, 3, 10, 5);
        x.does(5, 0, Kinds.SUPER, 0, 9);
        check.faults("10: SUPER runs nothing, MISSING", x, 3, 10, 5);
        for (int name = 0; name < 3; name++) {
            x.does(5, 0, Kinds.SUPER, 0, name);
            check.faults("10: SUPER runs ROOT's " + name, x, 3);
        }
        x.does(3, 0, Kinds.SUPER, 0, 0);
        check.faults("10: SUPER in a face", x, 1, 10, 3);
        x.does(3, 0, Kinds.THIS, 0, 0);
        check.faults("10: THIS in a face, of ROOT's", x, 1, 10, 3);
        x.does(0, 0, Kinds.SUPER, 0, 1);
        x.does(1, 0, Kinds.THIS, 0, 2);
        x.does(2, 0, Kinds.THIS, 0, 3);
        check.faults("10: in ROOT", x, 0, 10, 0, 10, 2);
    }

    private static void superFaces() {
        InterfaceRules x = Kinds.with(Kinds.FACE, Kinds.FACE, Kinds.CLASS, Kinds.CLASS, Kinds.FACE);
        x.face(2, 1);
        x.member(1, 3, Kinds.BODY, 0);
        x.member(1, 4, Kinds.ABSTRACT, 0);
        x.member(4, 4, Kinds.BODY, 0);
        x.does(5, 0, Kinds.BY_FACE, 1, 3);
        check.faults("11: none of its faces", x, 4, 11, 5);
        x.face(4, 1);
        check.faults("11: one of its faces", x, 4);
        x.does(5, 0, Kinds.BY_FACE, 1, 4);
        check.faults("12: it runs nothing, UNDONE", x, 4, 12, 5);
        x.does(5, 0, Kinds.BY_FACE, 1, 0);
        check.faults("12: it runs nothing, MISSING", x, 4, 12, 5);
        x.does(5, 0, Kinds.BY_FACE, 1, 3);
        x.face(4, 2);
        check.faults("11: another face has it as an ancestor", x, 4, 11, 5);
        x.does(5, 0, Kinds.BY_FACE, 1, 4);
        check.faults("11: ahead of 12", x, 4, 11, 5);
        x.does(5, 0, Kinds.BY_FACE, 2, 3);
        check.faults("11: the lower face", x, 4);
        x.face(3, 2);
        x.extend(4, 3);
        check.faults("11: the SUPER has it as an ancestor", x, 4, 11, 5);
        x.member(5, 3, Kinds.BODY, 0);
        x.does(6, 0, Kinds.BY_FACE, 2, 3);
        check.faults("11: in a face, none of its faces", x, 5, 11, 6);
        x.face(5, 2);
        check.faults("11: in a face", x, 5);
        x.does(0, 0, Kinds.BY_FACE, 1, 3);
        check.faults("11: in ROOT", x, 0, 11, 0);
    }

    private static void statics() {
        InterfaceRules x = Kinds.with(Kinds.FACE, Kinds.FACE, Kinds.CLASS, Kinds.CLASS, Kinds.CLASS);
        x.face(2, 1);
        x.extend(4, 3);
        x.member(1, 3, Kinds.STATIC, 0);
        x.member(3, 3, Kinds.STATIC, 0);
        x.member(3, 4, Kinds.BODY, 0);
        x.member(5, 5, Kinds.BODY, 0);
        int[][] rows = {{1, 3, 0}, {2, 3, 1}, {3, 3, 0}, {4, 3, 0}, {5, 3, 1}, {3, 4, 1}, {4, 4, 1}, {0, 0, 1}, {1, 4, 1}};
        for (int[] row : rows) {
            x.does(6, 0, Kinds.BY_STATIC, row[0], row[1]);
            check.due("12: STATIC " + row[0] + " " + row[1], x.faults(5, Kinds.NONE, 0), row[2]);
            check.due("12: its code", x.faults(5, 0, 0), row[2] == 1 ? 12 : Kinds.BAD);
            check.due("12: its number", x.faults(5, 0, 1), row[2] == 1 ? 6 : Kinds.BAD);
        }
        x.does(6, 0, Kinds.BY_STATIC, 4, 3);
        x.member(4, 3, Kinds.BODY, 0);
        check.faults("12: an own one that is not STATIC", x, 5, 12, 6);
    }

    private static void sealedFaces() {
        InterfaceRules x = Kinds.with(Kinds.FACE, Kinds.FACE, Kinds.FACE, Kinds.CLASS, Kinds.CLASS);
        x.face(4, 3);
        x.face(4, 1);
        x.face(4, 2);
        x.extend(5, 4);
        x.seal(1, Kinds.NONE);
        x.seal(3, 5);
        check.faults("13: each, in the order of the faces", x, 4, 13, 3, 13, 1);
        check.faults("13: not of ancestors beyond", x, 5);
        x.seal(3, 4);
        check.faults("13: the other one", x, 4, 13, 1);
    }

    private static void order() {
        InterfaceRules x = Kinds.with(Kinds.FACE, Kinds.FACE, Kinds.FACE);
        x.member(1, 9, Kinds.ABSTRACT, 2);
        x.member(2, 9, Kinds.ABSTRACT, 1);
        x.member(1, 0, Kinds.STATIC, 1);
        x.member(2, 0, Kinds.ABSTRACT, 1);
        x.member(2, 8, Kinds.ABSTRACT, 1);
        x.member(1, 8, Kinds.BODY, 2);
        x.member(3, 7, Kinds.BODY, 0);
        x.member(3, 2, Kinds.BODY, 0);
        x.member(3, 0, Kinds.BODY, 0);
        x.face(3, 1);
        x.face(3, 2);
        x.seal(2, Kinds.NONE);
        x.does(11, 0, Kinds.THIS, 0, 6);
        x.does(9, 0, Kinds.BY_STATIC, 1, 9);
        x.does(10, 0, Kinds.BY_FACE, 1, 9);
        check.faults("order", x, 3, 1, 11, 5, 11, 1, 10, 6, 8, 7, 8, 6, 9, 12, 9, 12, 10, 10, 11, 13, 2);
    }

    private static void told() {
        InterfaceRules x = Kinds.with(Kinds.FACE, Kinds.FACE, Kinds.CLASS);
        check.due("told: types", x.told(0), 4);
        check.due("told: members", x.told(1), 3);
        check.due("told: without faults", x.told(2), 4);
        x.member(1, 0, Kinds.BODY, 0);
        x.member(2, 5, Kinds.ABSTRACT, 0);
        check.due("told: a face with a fault", x.told(2), 3);
        x.face(3, 2);
        check.due("told: a class with a fault", x.told(2), 2);
        x.does(1, 0, Kinds.THIS, 0, 9);
        check.due("told: ROOT with a fault", x.told(2), 1);
        check.due("told: members more", x.told(1), 5);
        for (int what : new int[] {-1, 3, Integer.MIN_VALUE, Integer.MAX_VALUE, Kinds.NONE}) {
            check.due("told: wrong", x.told(what), Kinds.BAD);
        }
    }
}
