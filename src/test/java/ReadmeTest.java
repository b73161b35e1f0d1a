import java.io.IOException;
import java.lang.reflect.Method;
import java.nio.file.Files;
import java.nio.file.Path;
import java.util.List;
import java.util.regex.Matcher;
import java.util.regex.Pattern;
import java.util.stream.Collectors;
import java.util.stream.Stream;

/** README.md names every call, finding and test; its example answers what it says. */
public final class ReadmeTest {

    private static final String[] FINDINGS = {"BEYOND", "FULL", "KIND", "NONE", "STATE", "MISSING", "SIZE"};

    private static final Pattern PUBLIC_CALL = Pattern.compile("public (?:int|long) (\\w+)\\(([^)]*)\\)");
    private static final Pattern EXAMPLE = Pattern.compile("quarter\\.((\\w+)\\(([^)]*)\\)); +// (-?\\d+): ");

    public static void main(String[] args) throws ReflectiveOperationException, IOException {
        String readme = Files.readString(Path.of("README.md"));
        calls(readme);
        findings(readme);
        tests(readme);
        example(readme);
        Due.end();
    }

    private static void named(String readme, String name) {
        Due.due("README.md names " + name, readme.contains(name) ? 1 : 0, 1);
    }

    private static void calls(String readme) throws IOException {
        Matcher call = PUBLIC_CALL.matcher(Files.readString(Path.of("src/main/java/GutterRights.java")));
        int count = 0;
        while (call.find()) {
            named(readme, "`" + call.group(1) + "(" + call.group(2).replace("int ", "") + ")`");
            count++;
        }
        Due.due("calls", count, 42);
        named(readme, "new GutterRights()");
    }

    private static void findings(String readme) {
        for (int i = 0; i < FINDINGS.length; i++) {
            named(readme, "| " + (Due.BEYOND - i) + " | " + FINDINGS[i] + " | " + i + " |");
        }
    }

    private static void tests(String readme) throws IOException {
        named(readme, ".ci/run");
        named(readme, "../shared/tests");
        try (Stream<Path> files = Files.list(Path.of("src/test/java"))) {
            List<String> names = files.map(file -> file.getFileName().toString().replace(".java", ""))
                    .filter(name -> name.endsWith("Test")).sorted().collect(Collectors.toList());
            for (String name : names) {
                named(readme, "`" + name + "`");
            }
        }
    }

    private static void example(String readme) throws ReflectiveOperationException {
        GutterRights quarter = new GutterRights();
        Matcher line = EXAMPLE.matcher(readme);
        int lines = 0;
        while (line.find()) {
            Due.due(line.group(1), answer(quarter, line.group(2), line.group(3)), Long.parseLong(line.group(4)));
            lines++;
        }
        Due.due("lines of the example", lines, 15);
    }

    private static long answer(GutterRights quarter, String name, String list) throws ReflectiveOperationException {
        String[] numbers = list.isEmpty() ? new String[0] : list.split(", ");
        Class<?>[] types = new Class<?>[numbers.length];
        Object[] values = new Object[numbers.length];
        for (int i = 0; i < numbers.length; i++) {
            types[i] = int.class;
            values[i] = Integer.parseInt(numbers[i]);
        }
        Method call = GutterRights.class.getMethod(name, types);
        return ((Number) call.invoke(quarter, values)).longValue();
    }
}
