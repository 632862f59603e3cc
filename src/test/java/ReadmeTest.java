import java.io.IOException;
import java.lang.reflect.Method;
import java.lang.reflect.Modifier;
import java.nio.charset.StandardCharsets;
import java.nio.file.Files;
import java.nio.file.Path;
import java.util.ArrayList;
import java.util.List;
import java.util.Set;
import java.util.TreeSet;
import java.util.concurrent.Callable;
import java.util.regex.Matcher;
import java.util.regex.Pattern;
import java.util.stream.Collectors;
import java.util.stream.Stream;

/** What README.md tells of calls, answers, exceptions and tests is so. */
public final class ReadmeTest extends Samples {
    private static final Pattern QUOTED = Pattern.compile("`(\\w+)`");
    private static final Pattern TEST_NAME = Pattern.compile("\\b(\\w+Test)\\.java\\b");
    private static List<String> lines;
    private static List<String> told;
    private static int next;

    public static void main(String[] args) throws IOException {
        lines = Files.readAllLines(Path.of("README.md"), StandardCharsets.US_ASCII);
        told = exampleLines();
        examplesAnswerAsTold();
        eachCallIsNamed();
        exceptionsAreThoseOfTheFace();
        eachTestIsNamed();
        Checks.finish("ReadmeTest");
    }

    private static List<String> exampleLines() {
        List<String> found = new ArrayList<>();
        boolean inside = false;
        for (String line : lines) {
            if (line.startsWith("```")) {
                inside = line.equals("```java");
            } else if (inside && line.startsWith("colony.")) {
                found.add(line.replaceAll(" +// ", " // "));
            }
        }
        return found;
    }

    private static void told(String call, Callable<?> answer) {
        String line = next < told.size() ? told.get(next) : "nothing";
        next++;
        Checks.due("README.md tells '" + line + "', which", call + "; // " + Checks.outcome(answer), line);
    }

    private static void toldText(MagnetColony x, String text) {
        Checks.due("README.md has the text " + text,
                lines.stream().anyMatch(line -> line.contains("\"" + text + "\"")), true);
        feed(x, text);
    }

    private static void examplesAnswerAsTold() {
        MagnetColony x = new MagnetColony();
        told("colony.addMagnet(40, 12, true)", () -> x.addMagnet(40, 12, true));
        told("colony.addMagnet(43, 8, true)", () -> x.addMagnet(43, 8, true));
        told("colony.dig(0, 1)", () -> x.dig(0, 1));
        told("colony.isOpen(0)", () -> x.isOpen(0));
        told("colony.force(0)", () -> x.force(0));
        told("colony.settle()", x::settle);
        told("colony.pole(0)", () -> x.pole(0));
        told("colony.force(0)", () -> x.force(0));
        told("colony.move()", x::move);
        told("colony.position(0)", () -> x.position(0));
        told("colony.undo()", x::undo);
        Checks.due("the position before the move", x.position(0), 40);

        toldText(x, "magnet 5 30s;dig 2-0;strength 2=7;turn 2;shift 41;move");
        told("colony.execute()", x::execute);
        told("colony.writeMagnet(2)", () -> x.writeMagnet(2));
        String line = line(x, 2);
        Checks.due("README.md tells the line " + line,
                lines.stream().anyMatch(it -> it.contains("`" + line + "`")), true);

        told("colony.addMagnet(44, 1, false)", () -> x.addMagnet(44, 1, false));
        told("colony.denial()", x::denial);
        told("colony.denialDetail()", x::denialDetail);
        told("colony.dig(0, 0)", () -> x.dig(0, 0));
        told("colony.denial()", x::denial);
        toldText(x, "turn 0;fill 9");
        told("colony.execute()", x::execute);
        told("colony.denial()", x::denial);
        told("colony.denialDetail()", x::denialDetail);
        told("colony.denialCause()", x::denialCause);
        told("colony.turnsOf(0)", () -> x.turnsOf(0));
        Checks.due("the number of example lines", next, told.size());
    }

    private static void eachCallIsNamed() {
        Set<String> named = new TreeSet<>();
        section("## The calls").forEach(line -> named.addAll(namesIn(QUOTED, line)));
        Set<String> face = face().map(Method::getName).collect(Collectors.toCollection(TreeSet::new));
        Checks.due("the calls that README.md names", named, face);
    }

    private static void exceptionsAreThoseOfTheFace() {
        Set<String> thrown = new TreeSet<>();
        face().forEach(method -> {
            for (Class<?> type : method.getExceptionTypes()) {
                thrown.add(type.getSimpleName());
            }
        });
        Set<String> explained = new TreeSet<>();
        for (String line : section("## Refused calls and exceptions")) {
            Matcher row = Pattern.compile("\\| `(\\w+Exception)` \\|.*\\|(.*)\\|").matcher(line);
            if (row.matches()) {
                explained.add(row.group(1));
                Checks.due("the calls that throw " + row.group(1),
                        new TreeSet<>(namesIn(QUOTED, row.group(2))), throwersOf(row.group(1)));
            }
        }
        Checks.due("the exceptions that README.md explains", explained, thrown);
    }

    private static Set<String> throwersOf(String exception) {
        Set<String> names = new TreeSet<>();
        face().forEach(method -> {
            for (Class<?> type : method.getExceptionTypes()) {
                if (type.getSimpleName().equals(exception)) {
                    names.add(method.getName());
                }
            }
        });
        return names;
    }

    private static void eachTestIsNamed() throws IOException {
        Set<String> named = new TreeSet<>();
        section("## Tests").forEach(line -> named.addAll(namesIn(TEST_NAME, line)));
        Set<String> there;
        try (Stream<Path> files = Files.list(Path.of("src/test/java"))) {
            there = files.flatMap(file -> namesIn(TEST_NAME, file.getFileName().toString()).stream())
                    .collect(Collectors.toCollection(TreeSet::new));
        }
        Checks.due("the tests that README.md names", named, there);
    }

    private static Stream<Method> face() {
        return Stream.of(MagnetColony.class.getDeclaredMethods())
                .filter(method -> Modifier.isPublic(method.getModifiers()));
    }

    private static List<String> section(String heading) {
        int start = lines.indexOf(heading) + 1;
        int end = start;
        while (end < lines.size() && !lines.get(end).startsWith("## ")) {
            end++;
        }
        return lines.subList(start, end);
    }

    private static List<String> namesIn(Pattern pattern, String line) {
        return pattern.matcher(line).results().map(result -> result.group(1)).toList();
    }
}
