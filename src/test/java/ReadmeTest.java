import java.io.IOException;
import java.lang.reflect.Method;
import java.lang.reflect.Modifier;
import java.nio.file.Files;
import java.nio.file.Path;
import java.util.ArrayList;
import java.util.Arrays;
import java.util.List;
import java.util.Set;
import java.util.TreeSet;
import java.util.regex.Matcher;
import java.util.regex.Pattern;
import java.util.stream.Collectors;
import java.util.stream.Stream;

/** README.md: every call that it shows answers as it says, and every test and file that it names is there. */
public final class ReadmeTest {
    private static final Due due = new Due("ReadmeTest");
    private static final Path README = Path.of("README.md");
    private static final Path TESTS = Path.of("src/test/java");
    private static final Pattern NEW = Pattern.compile("BarrelMoon moon = new BarrelMoon\\(\\);");
    private static final Pattern FEED_ALL = Pattern.compile("for \\(char letter : \"(.*)\"\\.toCharArray\\(\\)\\) \\{");
    private static final Pattern CALL = Pattern.compile("moon\\.(\\w+)\\((.*)\\); *// (-?\\d+|[A-Z]+): .*");

    private static final Set<String> shown = new TreeSet<>();
    private static BarrelMoon moon = null;
    private static int calls = 0;

    public static void main(String[] args) throws IOException, ReflectiveOperationException {
        List<String> lines = Files.readAllLines(README);
        runExamples(codeOf(lines));
        wholeFace();
        String text = String.join("\n", lines);
        refusals(text);
        testsNamed(lines);
        filesNamed(text);
        ciRun(text);
        due.end();
    }

    /** The lines of all java blocks, in their order: later ones go on with the object of the first. */
    private static List<String> codeOf(List<String> lines) {
        List<String> code = new ArrayList<>();
        boolean inside = false;
        for (String line : lines) {
            if (line.startsWith("```")) {
                inside = line.equals("```java");
            } else if (inside && !line.isBlank()) {
                code.add(line.trim());
            }
        }
        return code;
    }

    private static void runExamples(List<String> code) throws ReflectiveOperationException {
        for (int i = 0; i < code.size(); i++) {
            Matcher loop = FEED_ALL.matcher(code.get(i));
            Matcher call = CALL.matcher(code.get(i));
            if (NEW.matcher(code.get(i)).matches()) {
                moon = new BarrelMoon();
                calls = 0;
            } else if (loop.matches() && moon != null) {
                due.holds("the loop feeds", code.subList(i + 1, i + 3).equals(List.of("moon.feed(letter);", "}")));
                feedAll(loop.group(1));
                i += 2;
            } else if (call.matches() && moon != null) {
                due.is(code.get(i), answerOf(call.group(1), call.group(2)), valueOf(call.group(3)));
            } else {
                due.holds("an example that can be run: " + code.get(i), false);
            }
        }
        due.holds("the examples have 512 calls at most: " + calls, calls > 0 && calls <= 512);
    }

    private static void feedAll(String text) {
        Due.feedAll(moon, text);
        calls += text.length();
        shown.add("feed");
    }

    private static int answerOf(String name, String arguments) throws ReflectiveOperationException {
        String[] parts = arguments.isEmpty() ? new String[0] : arguments.split(", ");
        Method method = Stream.of(BarrelMoon.class.getDeclaredMethods())
                .filter(m -> m.getName().equals(name) && m.getParameterCount() == parts.length)
                .findFirst().orElseThrow(() -> new NoSuchMethodException(name));
        Object[] values = new Object[parts.length];
        for (int i = 0; i < parts.length; i++) {
            boolean yesOrNo = method.getParameterTypes()[i] == boolean.class;
            values[i] = yesOrNo ? (Object) Boolean.valueOf(parts[i]) : (Object) Integer.valueOf(parts[i]);
        }
        calls++;
        shown.add(name);
        return (Integer) method.invoke(moon, values);
    }

    private static int valueOf(String told) throws ReflectiveOperationException {
        return told.matches("-?\\d+") ? Integer.parseInt(told) : BarrelMoon.class.getField(told).getInt(null);
    }

    private static void wholeFace() {
        Set<String> face = Arrays.stream(BarrelMoon.class.getDeclaredMethods())
                .filter(m -> Modifier.isPublic(m.getModifiers())).map(Method::getName)
                .collect(Collectors.toCollection(TreeSet::new));
        due.holds("each call of the face is shown: " + shown, shown.equals(face));
    }

    private static void refusals(String text) throws ReflectiveOperationException {
        int at = -1;
        for (String name : List.of("UNKNOWN", "OUTSIDE", "NOT", "FULL")) {
            int found = text.indexOf("`" + name + "` " + valueOf(name));
            due.holds(name + " is told with its number, in the order of the document", found > at);
            at = found;
        }
        due.holds("NONE is told", text.contains("`NONE` is " + BarrelMoon.NONE));
    }

    private static Set<String> classesUnder(Path directory) throws IOException {
        try (Stream<Path> files = Files.list(directory)) {
            return files.map(f -> f.getFileName().toString()).filter(n -> n.endsWith(".java"))
                    .map(n -> n.substring(0, n.length() - ".java".length()))
                    .collect(Collectors.toCollection(TreeSet::new));
        }
    }

    /** The table has all tests and no other; the sentence behind it has all that helps them. */
    private static void testsNamed(List<String> lines) throws IOException {
        Set<String> tests = new TreeSet<>();
        Set<String> helpers = new TreeSet<>();
        for (String line : lines) {
            Matcher row = Pattern.compile("\\| `(\\w+)` \\| .+ \\|").matcher(line);
            if (row.matches()) {
                tests.add(row.group(1));
            }
            if (line.contains(" help the tests")) {
                Matcher name = Pattern.compile("`(\\w+)`").matcher(line.substring(0, line.indexOf(" help the tests")));
                while (name.find()) {
                    helpers.add(name.group(1));
                }
            }
        }
        Set<String> there = classesUnder(TESTS);
        Set<String> thereTests = there.stream().filter(n -> n.endsWith("Test")).collect(Collectors.toSet());
        there.removeAll(thereTests);
        due.holds("the table has the tests that are there: " + tests, tests.equals(thereTests));
        due.holds("the helpers are those that are there: " + helpers, helpers.equals(there));
    }

    /** Whatever looks like a path has to be there; a star stands for any name. */
    private static void filesNamed(String text) {
        Matcher path = Pattern.compile("(?:\\.\\./shared|src|\\.ci)/[\\w./*]*\\w").matcher(text);
        int found = 0;
        while (path.find()) {
            String name = path.group();
            String real = name.contains("*") ? name.substring(0, name.lastIndexOf('/')) : name;
            due.holds(name + " is there", Files.exists(Path.of(real)));
            found++;
        }
        due.holds("paths are named", found > 0);
    }

    private static void ciRun(String text) throws IOException {
        Path script = Path.of(".ci/run");
        due.holds(".ci/run can be run", Files.isExecutable(script));
        due.holds("the page names it", text.contains("    .ci/run\n"));
        String code = Files.readString(script);
        due.holds("its last line is as told", text.contains("`N passed, N failed`")
                && code.contains("echo \"$passed passed, $failed failed\""));
        due.holds("it runs every test of the project", code.contains("for file in src/test/java/*Test.java"));
        due.holds("it runs every shared test", code.contains("for file in \"$shared\"/*.java"));
    }
}
