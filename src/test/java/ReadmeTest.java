import java.io.ByteArrayOutputStream;
import java.io.IOException;
import java.io.PrintStream;
import java.lang.reflect.InvocationTargetException;
import java.lang.reflect.Method;
import java.lang.reflect.Modifier;
import java.net.URL;
import java.net.URLClassLoader;
import java.nio.charset.StandardCharsets;
import java.nio.file.Files;
import java.nio.file.Path;
import java.util.ArrayList;
import java.util.Arrays;
import java.util.List;
import java.util.Map;
import java.util.TreeMap;
import java.util.regex.Matcher;
import java.util.regex.Pattern;
import java.util.stream.Collectors;
import javax.tools.ToolProvider;

/** README.md: its example prints what is told there, and its table of exceptions is the one of the class. */
public final class ReadmeTest {
    private static final Pattern ROW = Pattern.compile("\\| `(\\w+)` \\| (.*) \\|");
    private static final Pattern EXCEPTION = Pattern.compile("`(\\w+Exception)`");
    private static final Checks CHECKS = new Checks("ReadmeTest");

    public static void main(String[] args) throws IOException, ReflectiveOperationException {
        List<String> readme = Files.readAllLines(Path.of("README.md"));
        example(readme);
        table(readme);
        tests(readme);
        CHECKS.end();
    }

    private static void example(List<String> readme) throws IOException, ReflectiveOperationException {
        List<String> want = block(readme, "```text");
        List<String> got = printedBy(block(readme, "```java"));
        CHECKS.same("the example prints several lines", true, got.size() > 5);
        CHECKS.same("lines of the example", want.size(), got.size());
        for (int i = 0; i < Math.min(want.size(), got.size()); i++) {
            CHECKS.same("line " + i + " of the example", want.get(i), got.get(i));
        }
    }

    /** The lines of the first block that begins so. */
    private static List<String> block(List<String> readme, String beginning) {
        int from = readme.indexOf(beginning) + 1;
        int to = from;
        while (to < readme.size() && !readme.get(to).equals("```")) {
            to++;
        }
        return readme.subList(from, to);
    }

    private static List<String> printedBy(List<String> program) throws IOException, ReflectiveOperationException {
        Path directory = Files.createTempDirectory("readme");
        Path source = directory.resolve("Example.java");
        try {
            Files.write(source, program);
            int status = ToolProvider.getSystemJavaCompiler().run(null, null, null, "-encoding", "UTF-8", "-cp",
                    System.getProperty("java.class.path"), "-d", directory.toString(), source.toString());
            CHECKS.same("the example compiles", 0, status);
            return status == 0 ? printedByExample(directory) : List.of();
        } finally {
            try (var files = Files.list(directory)) {
                for (Path each : files.toList()) {
                    Files.delete(each);
                }
            }
            Files.delete(directory);
        }
    }

    private static List<String> printedByExample(Path directory) throws IOException, ReflectiveOperationException {
        PrintStream before = System.out;
        ByteArrayOutputStream printed = new ByteArrayOutputStream();
        String end = "";
        try (URLClassLoader loader = new URLClassLoader(new URL[] {directory.toUri().toURL()})) {
            System.setOut(new PrintStream(printed, true, StandardCharsets.UTF_8));
            loader.loadClass("Example").getMethod("main", String[].class).invoke(null, (Object) new String[0]);
        } catch (InvocationTargetException e) {
            end = "ended with " + e.getCause();
        } finally {
            System.setOut(before);
        }
        CHECKS.same("how the example ended", "", end);
        return printed.toString(StandardCharsets.UTF_8).lines().toList();
    }

    private static void table(List<String> readme) {
        Map<String, List<String>> rows = new TreeMap<>();
        for (String line : readme) {
            Matcher row = ROW.matcher(line);
            if (row.matches()) {
                List<String> before = rows.put(row.group(1), exceptionsIn(row.group(2)));
                CHECKS.same("one row alone for " + row.group(1), null, before);
            }
        }
        Map<String, List<String>> due = new TreeMap<>();
        for (Method each : MailMerge.class.getDeclaredMethods()) {
            if (Modifier.isPublic(each.getModifiers())) {
                due.put(each.getName(), Arrays.stream(each.getExceptionTypes()).map(Class::getSimpleName).toList());
            }
        }
        due.forEach((name, exceptions) ->
                CHECKS.same("row of " + name, exceptions, rows.getOrDefault(name, List.of())));
        rows.keySet().removeAll(due.keySet());
        CHECKS.same("rows of no method", Map.of(), rows);
        String all = String.join("\n", readme);
        CHECKS.same("methods that are not named", List.of(),
                due.keySet().stream().filter(each -> !all.contains("`" + each)).toList());
    }

    private static List<String> exceptionsIn(String text) {
        List<String> names = new ArrayList<>();
        Matcher matcher = EXCEPTION.matcher(text);
        while (matcher.find()) {
            names.add(matcher.group(1));
        }
        return names;
    }

    private static void tests(List<String> readme) throws IOException {
        String all = String.join("\n", readme);
        try (var files = Files.list(Path.of("src/test/java"))) {
            List<String> unnamed = files.map(each -> each.getFileName().toString())
                    .filter(each -> each.endsWith("Test.java")).map(each -> each.replace(".java", ""))
                    .filter(each -> !all.contains("`" + each + "`")).collect(Collectors.toList());
            CHECKS.same("tests that are not named", List.of(), unnamed);
        }
    }
}
