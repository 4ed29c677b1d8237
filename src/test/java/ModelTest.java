import java.util.Arrays;

/** Long runs of calls, the same ones each time, with the answers of the class and of PlainModel side by side. */
public final class ModelTest {
    // An object is used for 512 calls at most; the last ones of a run ask for what the others built.
    private static final int RUNS = 4000, CALLS = 512, ASKING = 150;
    private static final String[] BUILDING = {"type", "extend", "face", "face", "member", "member", "member", "does", "does"};
    private static final String[] ALL = {"type", "extend", "face", "seal", "member", "does", "does", "constant", "has", "runs",
        "faults", "faults", "functional", "sees", "value", "below", "call", "call", "latest", "told"};
    private static final String[] ASKS = {"has", "has", "runs", "faults", "faults", "faults", "call", "latest", "functional", "sees"};
    private static final Check check = new Check();
    private static long state;

    public static void main(String[] args) throws ReflectiveOperationException {
        for (int run = 1; run <= RUNS; run++) {
            state = run * 0x9E3779B97F4A7C15L;
            followRun(run);
        }
        check.end();
    }

    private static String pick(String[] methods) {
        return methods[below(methods.length)];
    }

    private static int below(int bound) {
        state = state * 6364136223846793005L + 1442695040888963407L;
        return (int) ((state >>> 33) % bound);
    }

    private static void followRun(int run) throws ReflectiveOperationException {
        InterfaceRules x = new InterfaceRules();
        PlainModel y = new PlainModel();
        // Few names make members meet one another; many types make deep trees.
        int names = 1 + below(10);
        int typesFirst = below(16);
        int building = 60 + below(200);
        for (int k = 0; k < CALLS; k++) {
            String[] some = k < building ? BUILDING : k < CALLS - ASKING ? ALL : ASKS;
            String method = k < typesFirst ? "type" : pick(some);
            int[] arguments = arguments(method, names, y.told(0), y.told(1));
            int got = ask(x, method, arguments);
            int want = ask(y, method, arguments);
            check.due("run " + run + ", call " + k + ", " + method + Arrays.toString(arguments), got, want);
            if (got != want) {
                return;
            }
        }
    }

    /** Mostly good numbers, now and then one that is just outside. */
    private static int number(int low, int high) {
        int chance = below(60);
        return chance == 0 ? low - 1 : chance == 1 ? high + 1 : low + below(Math.max(1, high - low + 1));
    }

    private static int[] arguments(String method, int names, int types, int members) {
        int t = number(0, types - 1);
        int lesser = t > 0 ? number(0, t - 1) : number(0, types - 1);
        int name = below(4) == 0 ? number(0, 9) : below(names);
        switch (method) {
            case "type": return new int[] {below(3) == 0 ? number(0, 2) : 2 - below(5) / 2};
            case "extend": case "face": return new int[] {t, lesser};
            case "seal": return new int[] {lesser, below(4) == 0 ? Kinds.NONE : t};
            case "member": return new int[] {t, name, number(0, 4), number(0, 3)};
            case "does": return new int[] {number(0, members - 1), number(-1000, 1000), number(0, 4), number(0, types - 1), name};
            case "constant": return new int[] {t, number(0, 3), below(5)};
            case "has": return new int[] {t, name, below(3) == 0 ? Kinds.NONE : number(0, 4)};
            case "runs": case "call": return new int[] {t, name};
            case "faults": return new int[] {t, below(3) == 0 ? Kinds.NONE : number(0, 6), number(0, 1)};
            case "functional": return new int[] {t};
            case "sees": case "value": return new int[] {t, number(0, 3)};
            case "below": return new int[] {t, number(0, types - 1)};
            default: return new int[] {number(0, 2)};
        }
    }

    private static int ask(Object asked, String method, int[] arguments) throws ReflectiveOperationException {
        Class<?>[] kinds = new Class<?>[arguments.length];
        Arrays.fill(kinds, int.class);
        Object[] boxed = Arrays.stream(arguments).boxed().toArray();
        return (Integer) asked.getClass().getDeclaredMethod(method, kinds).invoke(asked, boxed);
    }
}
