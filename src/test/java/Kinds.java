/** The document's numbers by their names, for the tests to read. */
final class Kinds {
    static final int CLASS = 0, OPEN = 1, FACE = 2;
    static final int ABSTRACT = 0, BODY = 1, STATIC = 2, PRIVATE = 3, FINAL = 4;
    static final int NOTHING = 0, THIS = 1, SUPER = 2, BY_FACE = 3, BY_STATIC = 4;
    static final int BAD = InterfaceRules.BAD, NO = InterfaceRules.NO, FULL = InterfaceRules.FULL, NONE = InterfaceRules.NONE;
    static final int MISSING = 1, CLASH = 2, UNDONE = 3, DEEP = 4;
    static final int[] FAR = {Integer.MIN_VALUE, Integer.MIN_VALUE + 1, -1000000, -5, -3, -2, 1000000, Integer.MAX_VALUE - 1, Integer.MAX_VALUE};

    private Kinds() {
    }

    /** A new object with a type more of each kind that is told: numbers from 1 on. */
    static InterfaceRules with(int... kinds) {
        InterfaceRules x = new InterfaceRules();
        for (int kind : kinds) {
            x.type(kind);
        }
        return x;
    }
}
