/** Objects that more than one test starts from. */
final class Worlds {
    private Worlds() {
    }

    static void fresh(InterfaceRules x) {
    }

    static InterfaceRules mixed() {
        InterfaceRules x = new InterfaceRules();
        mixed(x);
        return x;
    }

    static InterfaceRules full() {
        InterfaceRules x = new InterfaceRules();
        full(x);
        return x;
    }

    /**
     * Types 1, 2, 3, 7 are faces, 4 is an open class, 5, 6, 8 are classes; 8 has four faces; members of each sort
     * up to number 16, a sealed face, constants, and one call: whatever a refused call could spoil.
     */
    static void mixed(InterfaceRules x) {
        for (int kind : new int[] {Kinds.FACE, Kinds.FACE, Kinds.FACE, Kinds.OPEN, Kinds.CLASS, Kinds.CLASS, Kinds.FACE, Kinds.CLASS}) {
            x.type(kind);
        }
        int[][] faces = {{2, 1}, {4, 1}, {6, 2}, {6, 3}, {7, 3}, {8, 1}, {8, 2}, {8, 3}, {8, 7}};
        for (int[] row : faces) {
            x.face(row[0], row[1]);
        }
        x.extend(6, 4);
        x.seal(3, 6);
        int[][] members = {
            {1, 3, Kinds.ABSTRACT, 1}, {1, 4, Kinds.BODY, 0}, {1, 5, Kinds.STATIC, 0}, {1, 6, Kinds.PRIVATE, 2},
            {2, 3, Kinds.BODY, 3}, {3, 7, Kinds.BODY, 0}, {4, 3, Kinds.ABSTRACT, 1}, {4, 8, Kinds.BODY, 0},
            {4, 9, Kinds.FINAL, 0}, {5, 0, Kinds.BODY, 0}, {5, 5, Kinds.STATIC, 0}, {5, 6, Kinds.PRIVATE, 0},
            {6, 3, Kinds.BODY, 3}, {6, 4, Kinds.BODY, 0}};
        for (int[] row : members) {
            x.member(row[0], row[1], row[2], row[3]);
        }
        int[][] doings = {
            {0, 20, Kinds.NOTHING, 0, 0}, {4, 2, Kinds.THIS, 0, 6}, {5, 4, Kinds.NOTHING, 0, 0}, {6, 3, Kinds.BY_STATIC, 1, 5},
            {7, 5, Kinds.THIS, 0, 4}, {8, 6, Kinds.NOTHING, 0, 0}, {10, 7, Kinds.THIS, 0, 9}, {11, 8, Kinds.SUPER, 0, 0},
            {12, 9, Kinds.THIS, 0, 6}, {13, 10, Kinds.NOTHING, 0, 0}, {14, 11, Kinds.BY_STATIC, 5, 5},
            {15, 12, Kinds.BY_FACE, 2, 3}, {16, 13, Kinds.BY_FACE, 1, 4}};
        for (int[] row : doings) {
            x.does(row[0], row[1], row[2], row[3], row[4]);
        }
        int[][] constants = {{0, 0, 100}, {1, 1, 101}, {3, 1, 102}, {6, 2, 0}, {5, 3, -5}};
        for (int[] row : constants) {
            x.constant(row[0], row[1], row[2]);
        }
        x.call(6, 3);
    }

    /**
     * 16 types and 60 members: 1 to 6 are faces, 7 to 10 open classes, 11 to 14 classes, 15 a class with four faces.
     * Each type but ROOT has NAMES 3, 4, 5, those up to 12 also NAME 6.
     */
    static void full(InterfaceRules x) {
        for (int t = 1; t < 16; t++) {
            x.type(t <= 6 ? Kinds.FACE : t <= 10 ? Kinds.OPEN : Kinds.CLASS);
        }
        for (int f = 1; f <= 4; f++) {
            x.face(15, f);
        }
        x.extend(15, 14);
        for (int m = 3; m < 60; m++) {
            x.member(1 + (m - 3) % 15, 3 + (m - 3) / 15, Kinds.BODY, 0);
        }
        x.does(59, 8, Kinds.NOTHING, 0, 0);
        x.constant(15, 3, 9);
        x.call(12, 6);
    }
}
