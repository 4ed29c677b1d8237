import java.util.ArrayList;
import java.util.List;

/** What is refused changes nothing: an object that was refused something answers all as one that never was. */
final class Refusals {
    interface Build {
        void on(InterfaceRules x);
    }

    interface Ask {
        int on(InterfaceRules x);
    }

    // An object is used for 512 calls at most, so each slice of questions goes to a new one.
    private static final int SLICE = 250;

    private final Check check;
    private final Build world;
    private final List<List<Ask>> slices = new ArrayList<>();
    private final List<int[]> wanted = new ArrayList<>();

    Refusals(Check check, Build world) {
        this.check = check;
        this.world = world;
        InterfaceRules x = made();
        int types = x.told(0);
        int members = x.told(1);
        cut(counts());
        cut(ofTypes(types));
        cut(ofNames(types));
        cut(ofCalls(types));
        slices.add(ofSupers(types));
        slices.add(ofFacesAndSeals(types));
        cut(ofOwnMembers(types));
        slices.add(ofConstants(types));
        slices.add(ofNewOnes(types, members));
        for (List<Ask> slice : slices) {
            wanted.add(answers(made(), slice));
        }
    }

    /** Asks that the call is refused with that answer, and that nothing is otherwise behind it. */
    void due(String what, Ask refused, int answer) {
        for (int k = 0; k < slices.size(); k++) {
            InterfaceRules x = made();
            check.due(what, refused.on(x), answer);
            int[] got = answers(x, slices.get(k));
            for (int i = 0; i < got.length; i++) {
                check.due(what + ": question " + i + " of slice " + k + " behind it", got[i], wanted.get(k)[i]);
            }
        }
    }

    private InterfaceRules made() {
        InterfaceRules x = new InterfaceRules();
        world.on(x);
        return x;
    }

    private static int[] answers(InterfaceRules x, List<Ask> questions) {
        int[] all = new int[questions.size()];
        for (int i = 0; i < all.length; i++) {
            all[i] = questions.get(i).on(x);
        }
        return all;
    }

    private void cut(List<Ask> questions) {
        for (int from = 0; from < questions.size(); from += SLICE) {
            slices.add(questions.subList(from, Math.min(questions.size(), from + SLICE)));
        }
    }

    private static List<Ask> counts() {
        List<Ask> all = new ArrayList<>();
        for (int k = 0; k < 3; k++) {
            int what = k;
            all.add(x -> x.told(what));
            all.add(x -> x.latest(what));
        }
        return all;
    }

    private static List<Ask> ofTypes(int types) {
        List<Ask> all = new ArrayList<>();
        for (int k = 0; k < types; k++) {
            int t = k;
            all.add(x -> x.functional(t));
            addFaults(all, t);
            for (int j = 0; j < 4; j++) {
                int c = j;
                all.add(x -> x.sees(t, c));
                all.add(x -> x.value(t, c));
            }
            for (int j = 0; j < types; j++) {
                int u = j;
                all.add(x -> x.below(t, u));
            }
        }
        return all;
    }

    private static void addFaults(List<Ask> all, int t) {
        all.add(x -> x.faults(t, Kinds.NONE, 0));
        for (int k = 0; k < 4; k++) {
            int i = k;
            all.add(x -> x.faults(t, i, 0));
            all.add(x -> x.faults(t, i, 1));
        }
    }

    private static List<Ask> ofNames(int types) {
        List<Ask> all = new ArrayList<>();
        for (int k = 0; k < types * 10; k++) {
            int t = k / 10;
            int name = k % 10;
            all.add(x -> x.runs(t, name));
            all.add(x -> x.has(t, name, Kinds.NONE));
            all.add(x -> x.has(t, name, 0));
            all.add(x -> x.has(t, name, 1));
        }
        return all;
    }

    private static List<Ask> ofCalls(int types) {
        List<Ask> all = new ArrayList<>();
        for (int k = 0; k < types * 10; k++) {
            int t = k / 10;
            int name = k % 10;
            all.add(x -> x.call(t, name));
            all.add(x -> x.latest(0));
            all.add(x -> x.latest(1));
            all.add(x -> x.latest(2));
        }
        return all;
    }

    // From here on the questions are changes whose answers tell what stood there.

    private static List<Ask> ofSupers(int types) {
        List<Ask> all = new ArrayList<>();
        for (int k = 0; k < types; k++) {
            int t = k;
            all.add(x -> x.extend(t, 0));
        }
        return all;
    }

    private static List<Ask> ofFacesAndSeals(int types) {
        List<Ask> all = new ArrayList<>();
        for (int k = 1; k < types; k++) {
            for (int j = 1; j < k; j++) {
                int t = k;
                int f = j;
                all.add(x -> x.face(t, f));
            }
        }
        for (int t = 0; t < types; t++) {
            addFaults(all, t);
        }
        return all;
    }

    private static List<Ask> ofOwnMembers(int types) {
        List<Ask> all = new ArrayList<>();
        for (int k = 0; k < types * 10; k++) {
            int t = k / 10;
            int name = k % 10;
            all.add(x -> x.member(t, name, Kinds.BODY, 0));
        }
        return all;
    }

    private static List<Ask> ofConstants(int types) {
        List<Ask> all = new ArrayList<>();
        for (int k = 0; k < types * 4; k++) {
            int t = k / 4;
            int c = k % 4;
            all.add(x -> x.constant(t, c, 77));
            all.add(x -> x.value(t, c));
        }
        return all;
    }

    private static List<Ask> ofNewOnes(int types, int members) {
        List<Ask> all = new ArrayList<>();
        all.add(x -> x.does(members, 1, Kinds.NOTHING, 0, 0));
        all.add(x -> x.type(Kinds.CLASS));
        for (int k = 1; k < types; k++) {
            int f = k;
            // A new class may not be permitted by a seal that was told for it before it was there.
            all.add(x -> x.face(types, f));
        }
        addFaults(all, types);
        all.add(x -> x.told(0));
        all.add(x -> x.told(1));
        return all;
    }
}
