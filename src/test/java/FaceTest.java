import java.lang.reflect.Constructor;
import java.lang.reflect.Field;
import java.lang.reflect.Method;
import java.lang.reflect.Modifier;
import java.util.ArrayList;
import java.util.Arrays;
import java.util.List;
import java.util.Set;
import java.util.TreeSet;

/** The public face: the constants, the constructor and the methods of the document, and nothing beside them. */
public final class FaceTest {
    private static final String[] METHODS = {
        "type/1", "extend/2", "face/2", "seal/2", "member/4", "does/5", "constant/3", "has/3", "runs/2", "faults/3",
        "functional/1", "sees/2", "value/2", "below/2", "call/2", "latest/1", "told/1"};
    private static final Check check = new Check();

    public static void main(String[] args) {
        constants();
        constructor();
        methods();
        nestedClasses();
        namesOfMethods();
        staticFields();
        check.end();
    }

    private static void constants() {
        check.due("BAD", InterfaceRules.BAD, -1);
        check.due("NO", InterfaceRules.NO, -2);
        check.due("FULL", InterfaceRules.FULL, -3);
        check.due("NONE", InterfaceRules.NONE, -4);
        Set<String> open = new TreeSet<>();
        for (Field field : InterfaceRules.class.getDeclaredFields()) {
            if (!Modifier.isPrivate(field.getModifiers())) {
                open.add(field.getName());
            }
        }
        check.holds("the constants alone are public: " + open, open.equals(Set.of("BAD", "NO", "FULL", "NONE")));
    }

    private static void constructor() {
        Constructor<?>[] all = InterfaceRules.class.getDeclaredConstructors();
        check.due("one constructor", all.length, 1);
        check.holds("it is public", Modifier.isPublic(all[0].getModifiers()));
        check.due("it takes nothing", all[0].getParameterCount(), 0);
        check.holds("the class is final", Modifier.isFinal(InterfaceRules.class.getModifiers()));
    }

    private static void methods() {
        Set<String> open = new TreeSet<>();
        for (Method method : InterfaceRules.class.getDeclaredMethods()) {
            if (!Modifier.isPrivate(method.getModifiers())) {
                open.add(method.getName() + "/" + method.getParameterCount());
                check.holds(method + " is public and takes and answers int", isOfTheFace(method));
            }
        }
        check.holds("the methods are those of the document: " + open, open.equals(new TreeSet<>(Arrays.asList(METHODS))));
    }

    private static boolean isOfTheFace(Method method) {
        boolean ints = method.getReturnType() == int.class;
        for (Class<?> kind : method.getParameterTypes()) {
            ints &= kind == int.class;
        }
        return ints && Modifier.isPublic(method.getModifiers()) && !Modifier.isStatic(method.getModifiers());
    }

    private static void nestedClasses() {
        Class<?>[] nested = InterfaceRules.class.getDeclaredClasses();
        check.holds("some twelve classes at most", nested.length < 12);
        for (Class<?> each : nested) {
            int modifiers = each.getModifiers();
            check.holds(each + " is static", Modifier.isStatic(modifiers));
            check.holds(each + " is not public", !Modifier.isPublic(modifiers) && !Modifier.isProtected(modifiers));
            check.holds(each + " has some twenty fields at most", each.getDeclaredFields().length <= 20);
        }
    }

    private static List<Class<?>> allClasses() {
        List<Class<?>> all = new ArrayList<>(Arrays.asList(InterfaceRules.class.getDeclaredClasses()));
        all.add(InterfaceRules.class);
        return all;
    }

    private static void namesOfMethods() {
        Set<String> names = new TreeSet<>();
        for (String method : METHODS) {
            names.add(method.substring(0, method.indexOf('/')));
        }
        for (Class<?> each : allClasses()) {
            for (Method method : each.getDeclaredMethods()) {
                boolean isOfTheFace = each == InterfaceRules.class && Modifier.isPublic(method.getModifiers());
                check.holds(method + " bears no public one's name", isOfTheFace || !names.contains(method.getName()));
                check.holds(method + " takes seven at most", method.getParameterCount() <= 7);
            }
        }
    }

    private static void staticFields() {
        Set<Class<?>> allowed = Set.of(int.class, long.class, boolean.class, char.class, String.class,
            int[].class, long[].class, char[].class, byte[].class);
        for (Class<?> each : allClasses()) {
            for (Field field : each.getDeclaredFields()) {
                if (Modifier.isStatic(field.getModifiers())) {
                    check.holds(field + " is final", Modifier.isFinal(field.getModifiers()));
                    check.holds(field + " is a constant", allowed.contains(field.getType()));
                }
            }
        }
    }
}
