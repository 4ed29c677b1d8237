/** Counts the answers of a test that are not the ones that are due, and ends the test. */
final class Check {
    private int asked;
    private int wrong;
    private String sentence = "";

    /** Names the sentence of the document that the next answers are asked for. */
    void about(String next) {
        sentence = next + ": ";
    }

    void due(String what, int got, int want) {
        asked++;
        if (got != want) {
            wrong++;
            System.out.println(sentence + what + " answered " + got + ", due is " + want);
        }
    }

    void holds(String what, boolean isSo) {
        asked++;
        if (!isSo) {
            wrong++;
            System.out.println("not so: " + sentence + what);
        }
    }

    /** Asks for a type's faults as code, number, code, number ..., and that there are no more. */
    void faults(String what, InterfaceRules x, int t, int... wanted) {
        due(what + ", how many", x.faults(t, InterfaceRules.NONE, 0), wanted.length / 2);
        for (int i = 0; i < wanted.length / 2; i++) {
            due(what + ", code " + i, x.faults(t, i, 0), wanted[2 * i]);
            due(what + ", number " + i, x.faults(t, i, 1), wanted[2 * i + 1]);
        }
        due(what + ", one more", x.faults(t, wanted.length / 2, 0), InterfaceRules.BAD);
    }

    /** Asks for what a type has of a name, in order. */
    void has(String what, InterfaceRules x, int t, int name, int... wanted) {
        due(what + ", how many", x.has(t, name, InterfaceRules.NONE), wanted.length);
        for (int i = 0; i < wanted.length; i++) {
            due(what + ", at " + i, x.has(t, name, i), wanted[i]);
        }
        due(what + ", one more", x.has(t, name, wanted.length), InterfaceRules.BAD);
    }

    /** Asks for the sum of a call, why it stopped, how many members it entered and the last of them. */
    void call(String what, InterfaceRules x, int t, int name, int sum, int why, int entered, int last) {
        due(what + ", sum", x.call(t, name), sum);
        latest(what, x, why, entered, last);
    }

    void latest(String what, InterfaceRules x, int why, int entered, int last) {
        due(what + ", why", x.latest(0), why);
        due(what + ", entered", x.latest(1), entered);
        due(what + ", last", x.latest(2), last);
    }

    void end() {
        System.out.println(wrong == 0 ? asked + " answers are as due" : wrong + " of " + asked + " answers are not as due");
        if (wrong != 0) {
            System.exit(1);
        }
    }
}
