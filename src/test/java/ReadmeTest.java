import java.io.IOException;
import java.lang.reflect.Method;
import java.lang.reflect.Modifier;
import java.nio.file.Files;
import java.nio.file.Path;
import java.util.HashMap;
import java.util.Map;
import java.util.StringJoiner;
import java.util.regex.Matcher;
import java.util.regex.Pattern;

/** README.md: its example answers what it says, and it names the whole face. The first argument: the project's folder. */
public final class ReadmeTest {
    private static final Pattern STEP = Pattern.compile("(?:int (\\w+) = )?x\\.(\\w+)\\(([^)]*)\\); +// (-?\\d+): .*");
    private static final String MAKING = "InterfaceRules x = new InterfaceRules();";
    private static final Check check = new Check();

    public static void main(String[] args) throws IOException, ReflectiveOperationException {
        Path root = Path.of(args.length > 0 ? args[0] : ".");
        String text = Files.readString(root.resolve("README.md"));
        example(text);
        face(text);
        tests(text, root.resolve("src/test/java"));
        check.end();
    }

    private static void example(String text) throws ReflectiveOperationException {
        Matcher block = Pattern.compile("(?s)```java\n(.*?)```").matcher(text);
        check.holds("there is an example", block.find());
        String[] lines = block.group(1).split("\n");
        check.holds("it begins with a new object", lines[0].startsWith(MAKING));
        InterfaceRules x = new InterfaceRules();
        Map<String, Integer> known = new HashMap<>();
        known.put("InterfaceRules.NONE", InterfaceRules.NONE);
        for (int i = 1; i < lines.length; i++) {
            step(x, known, lines[i]);
        }
    }

    private static void step(InterfaceRules x, Map<String, Integer> known, String line) throws ReflectiveOperationException {
        Matcher step = STEP.matcher(line);
        if (!step.matches()) {
            check.holds("a call with its answer: " + line, false);
            return;
        }
        String[] words = step.group(3).split(", ");
        Object[] numbers = new Object[words.length];
        Class<?>[] kinds = new Class<?>[words.length];
        for (int i = 0; i < words.length; i++) {
            numbers[i] = known.containsKey(words[i]) ? known.get(words[i]) : Integer.valueOf(words[i]);
            kinds[i] = int.class;
        }
        int answer = (Integer) InterfaceRules.class.getMethod(step.group(2), kinds).invoke(x, numbers);
        check.due(line, answer, Integer.parseInt(step.group(4)));
        if (step.group(1) != null) {
            known.put(step.group(1), answer);
        }
    }

    private static void face(String text) {
        for (Method method : InterfaceRules.class.getDeclaredMethods()) {
            if (Modifier.isPublic(method.getModifiers())) {
                Pattern row = Pattern.compile("\\| `" + method.getName() + "\\(" + places(method) + "\\)` \\|");
                check.holds("a row for " + method.getName() + " with its arguments", row.matcher(text).find());
            }
        }
        for (String answer : new String[] {"`BAD` (-1)", "`NO` (-2)", "`FULL` (-3)", "`NONE` (-4)"}) {
            check.holds("it tells of " + answer, text.contains("- " + answer + ": "));
        }
    }

    private static String places(Method method) {
        StringJoiner places = new StringJoiner(", ");
        for (int i = 0; i < method.getParameterCount(); i++) {
            places.add("\\w+");
        }
        return places.toString();
    }

    private static void tests(String text, Path folder) throws IOException {
        try (var files = Files.newDirectoryStream(folder, "*Test.java")) {
            for (Path file : files) {
                String name = file.getFileName().toString().replace(".java", "");
                check.holds("a row for " + name, text.contains("| `" + name + "` |"));
            }
        }
    }
}
