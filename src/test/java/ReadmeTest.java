import java.io.IOException;
import java.lang.reflect.Method;
import java.lang.reflect.Modifier;
import java.nio.file.Files;
import java.nio.file.Path;
import java.util.HashMap;
import java.util.List;
import java.util.Map;
import java.util.TreeSet;
import java.util.regex.Matcher;
import java.util.regex.Pattern;
import java.util.stream.Stream;

/** What README.md says holds: the answers in its example, the calls and the tests that it names. */
public final class ReadmeTest {
    private static final Path README = Path.of("README.md"), TESTS = Path.of("src/test/java");
    private static final String FIRST_LINE = "AlarmKinds panel = new AlarmKinds();";
    /** A line of the example: a name for the answer, or none, the call, and the answer in the comment. */
    private static final Pattern LINE = Pattern.compile("(?:int (\\w+) = )?panel\\.(\\w+\\([^)]*\\)); +// (-?\\w+): .*");
    private static final Pattern CALL = Pattern.compile("\\| `(\\w+)\\(([^)]*)\\)` \\|.*");
    private static final Pattern TEST = Pattern.compile("`(\\w+Test)`");
    private static final Map<String, Integer> CODES = Map.of(
        "UNKNOWN", AlarmKinds.UNKNOWN, "OUTSIDE", AlarmKinds.OUTSIDE, "ROOM", AlarmKinds.ROOM);

    public static void main(String[] args) throws IOException {
        List<String> lines = Files.readAllLines(README);
        example(lines.subList(lines.indexOf("```java") + 1, lines.lastIndexOf("```")));
        calls(lines);
        codes(String.join(" ", lines));
        tests(String.join(" ", lines));
        Run.end();
    }

    private static void example(List<String> lines) {
        Run.same("the example's first line", lines.get(0), FIRST_LINE);
        Run run = new Run("README.md");
        Map<String, String> names = new HashMap<>();
        for (String line : lines.subList(1, lines.size())) {
            Matcher matcher = LINE.matcher(line);
            if (!matcher.matches()) {
                Run.same("a line of the example", line, "a call with its answer");
                continue;
            }
            String answer = matcher.group(3);
            run.due(withNumbers(matcher.group(2), names), CODES.containsKey(answer) ? CODES.get(answer) : answer);
            if (matcher.group(1) != null) {
                names.put(matcher.group(1), answer);
            }
        }
    }

    private static String withNumbers(String call, Map<String, String> names) {
        String numbers = call;
        for (Map.Entry<String, String> name : names.entrySet()) {
            numbers = numbers.replaceAll("\\b" + name.getKey() + "\\b", name.getValue());
        }
        return numbers;
    }

    private static void calls(List<String> lines) {
        TreeSet<String> told = new TreeSet<>();
        for (String line : lines) {
            Matcher matcher = CALL.matcher(line);
            if (matcher.matches()) {
                String inside = matcher.group(2);
                told.add(matcher.group(1) + " " + (inside.isEmpty() ? 0 : inside.split(",").length));
            }
        }
        TreeSet<String> there = new TreeSet<>();
        for (Method method : AlarmKinds.class.getDeclaredMethods()) {
            if (Modifier.isPublic(method.getModifiers())) {
                there.add(method.getName() + " " + method.getParameterCount());
            }
        }
        Run.same("the calls that README.md tells", told.toString(), there.toString());
    }

    private static void codes(String text) {
        for (Map.Entry<String, Integer> code : CODES.entrySet()) {
            String told = "`" + code.getKey() + "` (" + code.getValue() + ")";
            Run.same("README.md tells " + told, String.valueOf(text.contains(told)), "true");
        }
    }

    private static void tests(String text) throws IOException {
        TreeSet<String> told = new TreeSet<>();
        for (Matcher matcher = TEST.matcher(text); matcher.find();) {
            told.add(matcher.group(1));
        }
        TreeSet<String> there = new TreeSet<>();
        try (Stream<Path> files = Files.list(TESTS)) {
            files.map(file -> file.getFileName().toString()).filter(name -> name.endsWith("Test.java"))
                .forEach(name -> there.add(name.substring(0, name.length() - ".java".length())));
        }
        Run.same("the tests that README.md tells", told.toString(), there.toString());
    }
}
