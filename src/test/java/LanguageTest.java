import java.io.IOException;
import java.nio.charset.StandardCharsets;
import java.nio.file.Files;
import java.nio.file.Path;
import java.util.List;
import java.util.regex.Matcher;
import java.util.regex.Pattern;

/** Some rules of LANGUAGE.md that can be seen in the source, line by line. */
public final class LanguageTest {
    private static final List<String> IMPORTS =
            List.of("import java.util.Arrays;", "import java.util.NoSuchElementException;");
    private static final Pattern RULED_OUT = Pattern.compile(
            "->|::|\\b(try|catch|finally|synchronized|assert|package|instanceof|hashCode|toString)\\b"
            + "|Exact\\(|System\\.(?!arraycopy)|Math\\.(?!max|min|abs)|\\w\\.\\.\\.");
    private static final int LONGEST_METHOD = 60;
    private static final Pattern METHOD_START = Pattern.compile("^( {4}| {8})[\\w.\\[\\] ]+\\(.*");
    private static final Pattern METHOD_END = Pattern.compile("^( {4}| {8})\\}$");

    public static void main(String[] args) throws IOException {
        Path source = Path.of("src/main/java/MagnetColony.java");
        List<String> lines = Files.readAllLines(source, StandardCharsets.US_ASCII);
        int start = 0;
        for (int i = 0; i < lines.size(); i++) {
            String line = lines.get(i);
            Matcher matcher = RULED_OUT.matcher(line);
            Checks.due("line " + (i + 1) + " is ruled out: " + line, matcher.find(), false);
            if (line.startsWith("import")) {
                Checks.due(line + " is in the library", IMPORTS.contains(line), true);
            }
            if (METHOD_START.matcher(line).matches()) {
                start = i;
            }
            if (METHOD_END.matcher(line).matches() && start > 0) {
                Checks.due("the method at line " + (start + 1) + " is short", i - start <= LONGEST_METHOD, true);
                start = 0;
            }
        }
        Checks.finish("LanguageTest");
    }
}
