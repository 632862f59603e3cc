import java.io.IOException;
import java.lang.reflect.Field;
import java.lang.reflect.Method;
import java.lang.reflect.Modifier;
import java.nio.charset.StandardCharsets;
import java.nio.file.Files;
import java.nio.file.Path;
import java.util.List;
import java.util.regex.Matcher;
import java.util.regex.Pattern;

/** Some rules of LANGUAGE.md that can be seen in the source, line by line, or in the compiled class. */
public final class LanguageTest {
    private static final List<String> IMPORTS =
            List.of("import java.util.Arrays;", "import java.util.NoSuchElementException;");
    private static final Pattern RULED_OUT = Pattern.compile(
            "->|::|\\b(try|catch|finally|synchronized|assert|package|instanceof|hashCode|toString)\\b"
            + "|Exact\\(|System\\.(?!arraycopy)|Math\\.(?!max|min|abs)|\\w\\.\\.\\.");
    private static final Pattern THROW = Pattern.compile(
            " *throw new (IllegalState|IllegalArgument|IndexOutOfBounds|Arithmetic|UnsupportedOperation"
            + "|NoSuchElement)Exception\\(\"[a-z ]+\"\\);");
    private static final Pattern JOINED_TEXTS = Pattern.compile("\" *\\+|\\+ *\"");
    private static final int LONGEST_METHOD = 60;
    private static final int MOST_PARAMETERS = 7;
    private static final int MOST_CLASSES = 12;
    private static final int MOST_FIELDS = 20;
    private static final Pattern METHOD_START = Pattern.compile("^( {4}| {8})[\\w.\\[\\] ]+\\(.*");
    private static final Pattern METHOD_END = Pattern.compile("^( {4}| {8})\\}$");

    public static void main(String[] args) throws IOException {
        linesKeepTheRules();
        Class<?>[] inside = MagnetColony.class.getDeclaredClasses();
        Checks.due("there are few classes", inside.length + 1 <= MOST_CLASSES, true);
        sizeIsSmall(MagnetColony.class);
        for (Class<?> type : inside) {
            sizeIsSmall(type);
        }
        Checks.finish("LanguageTest");
    }

    private static void linesKeepTheRules() throws IOException {
        Path source = Path.of("src/main/java/MagnetColony.java");
        List<String> lines = Files.readAllLines(source, StandardCharsets.US_ASCII);
        int start = 0;
        for (int i = 0; i < lines.size(); i++) {
            String line = lines.get(i);
            Matcher matcher = RULED_OUT.matcher(line);
            Checks.due("line " + (i + 1) + " is ruled out: " + line, matcher.find(), false);
            Checks.due("line " + (i + 1) + " joins texts", JOINED_TEXTS.matcher(line).find(), false);
            if (line.contains("throw ")) {
                Checks.due(line + " is a throw of rule 6", THROW.matcher(line).matches(), true);
            }
            if (line.startsWith("import")) {
                Checks.due(line + " is in the library", IMPORTS.contains(line), true);
            }
            if (METHOD_START.matcher(line).matches()) {
                start = i;
            }
            if (METHOD_END.matcher(line).matches() && start > 0) {
                Checks.due("the method at line " + (start + 1) + " is short", i - start <= LONGEST_METHOD, true);
                start = 0;
            }
        }
    }

    private static void sizeIsSmall(Class<?> type) {
        int fields = 0;
        for (Field field : type.getDeclaredFields()) {
            fields += Modifier.isStatic(field.getModifiers()) ? 0 : 1;
        }
        Checks.due(type + " has few fields", fields <= MOST_FIELDS, true);
        for (Method method : type.getDeclaredMethods()) {
            Checks.due(method + " has few parameters", method.getParameterCount() <= MOST_PARAMETERS, true);
        }
    }
}
