import java.io.IOException;
import java.lang.reflect.Field;
import java.lang.reflect.Method;
import java.lang.reflect.Modifier;
import java.nio.file.Files;
import java.nio.file.Path;
import java.util.Arrays;
import java.util.List;
import java.util.Set;
import java.util.TreeSet;
import java.util.regex.Matcher;
import java.util.regex.Pattern;
import java.util.stream.Collectors;

/** The public face of the document, and those rules of LANGUAGE.md that can be seen from outside or by the letter. */
public final class FaceTest {
    private static final Due due = new Due("FaceTest");
    private static final Path DOCUMENT = Path.of("../shared/DOC.md");
    private static final Path SOURCE = Path.of("src/main/java/BarrelMoon.java");
    private static final Set<String> FACE = new TreeSet<>(List.of(
            "feed(int)", "town()", "fault()", "told(int)", "rule(int,int)", "see(int,boolean)",
            "forbid(int,boolean)", "debate()", "drop()", "drift(int)", "undo()", "follows(int)",
            "proof(int,int)", "giveUp(int)", "words(int)", "step(int)", "barred(int)", "never()", "round()",
            "vote(int,int)", "ask(int,int,boolean)", "believed(int)", "askNext()", "write(int,int)", "tear()",
            "judge()", "seed(int)", "keep(int)", "goBack(int)"));

    /** Rule 5. */
    private static final Set<Class<?>> PLAIN = Set.of(int.class, long.class, boolean.class, char.class, String.class,
            int[].class, long[].class, char[].class, byte[].class);

    public static void main(String[] args) throws IOException {
        constants();
        methods();
        documentsFace();
        groups();
        membersBesides();
        sizes();
        words();
        library();
        recursion();
        due.end();
    }

    private static void constants() {
        due.is("NONE", BarrelMoon.NONE, -1);
        due.is("UNKNOWN", BarrelMoon.UNKNOWN, -1000000001);
        due.is("OUTSIDE", BarrelMoon.OUTSIDE, -1000000002);
        due.is("NOT", BarrelMoon.NOT, -1000000003);
        due.is("FULL", BarrelMoon.FULL, -1000000004);
        Set<String> names = Arrays.stream(BarrelMoon.class.getDeclaredFields())
                .filter(f -> !Modifier.isPrivate(f.getModifiers())).map(Field::getName)
                .collect(Collectors.toCollection(TreeSet::new));
        due.holds("no other constant: " + names, names.equals(Set.of("NONE", "UNKNOWN", "OUTSIDE", "NOT", "FULL")));
    }

    private static void methods() {
        Set<String> found = new TreeSet<>();
        for (Method method : BarrelMoon.class.getDeclaredMethods()) {
            if (!Modifier.isPrivate(method.getModifiers())) {
                due.holds(method.getName() + " is public", Modifier.isPublic(method.getModifiers()));
                due.holds(method.getName() + " is no static one", !Modifier.isStatic(method.getModifiers()));
                due.holds(method.getName() + " answers an int", method.getReturnType() == int.class);
                found.add(method.getName() + Arrays.stream(method.getParameterTypes()).map(Class::getName)
                        .collect(Collectors.joining(",", "(", ")")));
            }
        }
        due.holds("the methods are those of the document: " + found, found.equals(FACE));
        due.is("constructors", BarrelMoon.class.getDeclaredConstructors().length, 1);
        due.is("public constructors without arguments", BarrelMoon.class.getConstructors()[0].getParameterCount(), 0);
        due.holds("public and final", BarrelMoon.class.getModifiers() == (Modifier.PUBLIC | Modifier.FINAL));
    }

    /** The code block of the document has the calls that the class has, and this test knows. */
    private static void documentsFace() throws IOException {
        Set<String> told = new TreeSet<>();
        Matcher call = Pattern.compile("    public int (\\w+)\\((.*)\\);").matcher(Files.readString(DOCUMENT));
        while (call.find()) {
            told.add(call.group(1) + "(" + call.group(2).replaceAll("(int|boolean) \\w+", "$1").replace(" ", "") + ")");
        }
        due.holds("the document's face: " + told, told.equals(FACE));
    }

    /** What the interface says ahead of which calls stands in the source, too, ahead of these and no others. */
    private static void groups() throws IOException {
        Matcher group = Pattern.compile("Ahead of the calls (.*) the interface says: ---- (.*)\\.")
                .matcher(Files.readString(DOCUMENT));
        String source = Files.readString(SOURCE);
        int calls = 0;
        while (group.find()) {
            int at = source.indexOf("    // ---- " + group.group(2) + "\n");
            int next = source.indexOf("    // ---- ", at + 1);
            due.holds("'" + group.group(2) + "' stands in the source", at >= 0);
            String part = at < 0 ? "" : source.substring(at, next < 0 ? source.length() : next);
            List<String> found = Pattern.compile("\n    public int (\\w+)\\(").matcher(part).results()
                    .map(m -> m.group(1)).collect(Collectors.toList());
            List<String> told = List.of(group.group(1).replace("`", "").split(", "));
            due.holds("behind '" + group.group(2) + "' stand " + told + ": " + found, found.equals(told));
            calls += told.size();
        }
        due.is("calls in groups", calls, FACE.size());
    }

    private static void membersBesides() {
        Set<String> names = FACE.stream().map(s -> s.substring(0, s.indexOf('('))).collect(Collectors.toSet());
        checkClass(BarrelMoon.class, names);
        for (Class<?> inside : BarrelMoon.class.getDeclaredClasses()) {
            int kind = inside.getModifiers();
            due.holds(inside + " is static", Modifier.isStatic(kind));
            due.holds(inside + " is private or package-visible", !Modifier.isPublic(kind) && !Modifier.isProtected(kind));
            checkClass(inside, names);
        }
    }

    private static void checkClass(Class<?> type, Set<String> face) {
        int fields = 0;
        for (Field field : type.getDeclaredFields()) {
            boolean constant = Modifier.isStatic(field.getModifiers());
            fields += constant ? 0 : 1;
            due.holds(field + " is final if static", !constant || Modifier.isFinal(field.getModifiers()));
            due.holds(field + " is of a plain type if static", !constant || PLAIN.contains(field.getType()));
        }
        due.holds(type + " has some twenty fields at most", fields <= 20);
        for (Method method : type.getDeclaredMethods()) {
            boolean hidden = type != BarrelMoon.class || Modifier.isPrivate(method.getModifiers());
            due.holds(method + " bears no name of the face", !hidden || !face.contains(method.getName()));
            due.holds(method + " has seven parameters at most", method.getParameterCount() <= 7);
        }
    }

    private static void sizes() throws IOException {
        due.holds("some twelve classes", BarrelMoon.class.getDeclaredClasses().length + 1 <= 12);
        List<String> lines = Files.readAllLines(SOURCE);
        int begun = -1;
        String end = "";
        for (int i = 0; i < lines.size(); i++) {
            Matcher head = Pattern.compile("( {4}| {8})\\S.*\\) \\{").matcher(lines.get(i));
            if (head.matches()) {
                begun = i;
                end = head.group(1) + "}";
            } else if (begun >= 0 && lines.get(i).equals(end)) {
                due.holds("at most sixty lines: " + lines.get(begun).trim(), i - begun + 1 <= 60);
                begun = -1;
            }
        }
    }

    private static void words() throws IOException {
        String source = Files.readString(SOURCE);
        due.holds("letters 1 to 127 alone", source.chars().allMatch(c -> c >= 1 && c <= 127));
        String code = source.replaceAll("(?s)/\\*.*?\\*/", " ").replaceAll("//[^\n]*", " ");
        String[] ruledOut = {"\\bthrow\\b", "\\bthrows\\b", "\\btry\\b", "\\bcatch\\b", "\\bsynchronized\\b",
            "\\bassert\\b", "\\bpackage\\b", "\\bimport\\b", "->", "::", "\\bprotected\\b", "\\bSystem\\.(?!arraycopy)",
            "\\bThread\\b", "\\bRandom\\b", "\\bObject\\b", "\\bhashCode\\b", "\\btoString\\b", "Exact\\b",
            "\\bstatic\\s*\\{", "\\bvar\\b", "\\bdouble\\b", "\\bfloat\\b", "\""};
        for (String word : ruledOut) {
            due.holds("nowhere " + word, !Pattern.compile(word).matcher(code).find());
        }
    }

    /** Rule 4: of the library only what is listed there, and of that only what the class needs. */
    private static void library() throws IOException {
        String code = Files.readString(SOURCE).replaceAll("(?s)/\\*.*?\\*/", " ").replaceAll("//[^\n]*", " ");
        Matcher call = Pattern.compile("\\b([A-Z]\\w*)\\.(\\w+)").matcher(code);
        Set<String> allowed = Set.of("Integer.bitCount", "Math.max", "Math.min");
        while (call.find()) {
            due.holds("the library has " + call.group(), allowed.contains(call.group()));
        }
        due.holds("no class without a name", !Pattern.compile("\\bnew \\w+\\([^;]*\\) \\{").matcher(code).find());
        due.holds("no row of rows of objects", !Pattern.compile("\\]\\s*\\[").matcher(code).find());
    }

    /** Rule 8: what calls itself is private and static, with its depth among the arguments. */
    private static void recursion() throws IOException {
        List<String> lines = Files.readAllLines(SOURCE);
        Pattern head = Pattern.compile("( {4}| {8})\\S.*\\b(\\w+)\\(.*\\) \\{");
        String name = null;
        String first = "";
        String end = "";
        for (String line : lines) {
            Matcher begun = head.matcher(line);
            if (begun.matches()) {
                name = begun.group(2);
                first = line.trim();
                end = begun.group(1) + "}";
            } else if (line.equals(end)) {
                name = null;
            } else if (name != null && Pattern.compile("(?<![.\\w])" + name + "\\(").matcher(line).find()) {
                due.holds("calls itself: " + first, first.startsWith("private static ") && first.contains("int count"));
            }
        }
    }
}
