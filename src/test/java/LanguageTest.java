import java.io.IOException;
import java.nio.file.Files;
import java.nio.file.Path;
import java.util.List;
import java.util.regex.Matcher;
import java.util.regex.Pattern;

/** The rules of LANGUAGE.md that can be read off the program's text. The first argument: the project's folder. */
public final class LanguageTest {
    private static final String[] FORBIDDEN = {
        "throw", "throws", "try", "catch", "synchronized", "assert", "->", "::", "package", "protected",
        "Exact", "System\\.(?!arraycopy)", "Math\\.random", "Object", "hashCode", "toString", "equals"};
    private static final int LONGEST_METHOD = 60;
    private static final Check check = new Check();

    public static void main(String[] args) throws IOException {
        Path root = Path.of(args.length > 0 ? args[0] : ".");
        String text = Files.readString(root.resolve("src/main/java/InterfaceRules.java"));
        String code = text.replaceAll("(?s)/\\*.*?\\*/", "").replaceAll("//[^\n]*", "").replaceAll("\"[^\"\n]*\"", "\"\"");
        forbiddenWords(code);
        imports(code);
        fills(code);
        methodLengths(text);
        check.holds("characters 0 to 255 alone", text.chars().allMatch(c -> c < 256));
        check.end();
    }

    private static void forbiddenWords(String code) {
        for (String word : FORBIDDEN) {
            String bounded = Character.isLetter(word.charAt(0)) && word.chars().allMatch(Character::isLetter) ? "\\b" + word + "\\b" : word;
            check.holds("no " + word, !Pattern.compile(bounded).matcher(code).find());
        }
        check.holds("one public class", code.split("public (final )?class").length == 2);
    }

    private static void imports(String code) {
        List<String> allowed = List.of("java.util.Arrays", "java.util.ArrayList", "java.util.List", "java.util.Iterator");
        Matcher found = Pattern.compile("import\\s+([^;]+);").matcher(code);
        while (found.find()) {
            check.holds("import of " + found.group(1), allowed.contains(found.group(1)));
        }
    }

    private static void fills(String code) {
        check.holds("Arrays.fill is over numbers alone", !Pattern.compile("Arrays\\.fill\\([^)]*(true|false)\\)").matcher(code).find());
    }

    private static void methodLengths(String text) {
        int start = -1;
        String[] lines = text.split("\n");
        for (int i = 0; i < lines.length; i++) {
            if (lines[i].matches(" {4}( {4})?[a-zA-Z].*\\) \\{")) {
                start = i;
            }
            if (start >= 0 && lines[i].matches(" {4}( {4})?\\}")) {
                check.holds("short enough: " + lines[start].trim(), i - start < LONGEST_METHOD);
                start = -1;
            }
        }
    }
}
