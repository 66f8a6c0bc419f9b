import java.io.IOException;
import java.lang.reflect.Field;
import java.lang.reflect.Method;
import java.lang.reflect.Modifier;
import java.nio.file.Files;
import java.nio.file.Path;
import java.util.ArrayList;
import java.util.List;
import java.util.regex.Matcher;
import java.util.regex.Pattern;
import java.util.stream.Collectors;
import java.util.stream.Stream;
import javax.tools.ToolProvider;

/**
 * What README.md shows of the class's use is compiled and run, and each call must answer what
 * stands behind it; nothing of the face, and no test, may be missing there.
 */
public final class ReadmeShows extends Sentences {
    private static final Path README = Path.of("README.md");
    private static final Path TESTS = Path.of("src", "test", "java");
    private static final String EXAMPLE = "ReadmeExample";

    private static final Pattern CALL = Pattern.compile("house\\.(\\w+)\\(.*?\\);.*");
    private static final Pattern ANSWERED = Pattern.compile(
        "(house\\.(\\w+)\\(.*?\\));\\s*// (-?\\d+|NONE|RANGE|STATE|FULL|throws \\w+)(:.*)?");

    private static List<String> example(List<String> readme) {
        int first = readme.indexOf("```java") + 1;
        List<String> rest = readme.subList(first, readme.size());
        return rest.subList(0, rest.indexOf("```"));
    }

    private static String literal(String words) {
        return "\"" + words.replace("\\", "\\\\").replace("\"", "\\\"") + "\"";
    }

    /** An answer as a number or as the name of what is thrown. */
    private static String answer(String shown) throws ReflectiveOperationException {
        if (shown.startsWith("throws ")) {
            return shown.substring("throws ".length());
        }
        if (Character.isLetter(shown.charAt(0))) {
            return String.valueOf(CopyPolls.class.getField(shown).get(null));
        }
        return shown;
    }

    /** A line of the example, as it stands or, if it shows an answer, as a check of it. */
    private static String checked(String line) throws ReflectiveOperationException {
        Matcher call = ANSWERED.matcher(line);
        if (!call.matches()) {
            return line;
        }
        return "says(\"README.md\", " + literal(line) + "); due(" + literal(call.group(1))
            + ", outcome(() -> " + call.group(1) + "), " + literal(answer(call.group(3))) + ");";
    }

    private static void runExample(List<String> lines)
            throws IOException, ReflectiveOperationException {
        List<String> source = new ArrayList<>();
        source.add("final class " + EXAMPLE + " extends Sentences { static void run() {");
        for (String line : lines) {
            source.add(checked(line));
        }
        source.add("} }");
        // Beside the other classes, so that this test's own loader finds it.
        Path classes = Path.of(System.getProperty("java.class.path"));
        Path file = classes.resolve(EXAMPLE + ".java");
        Files.write(file, source);
        int failed = ToolProvider.getSystemJavaCompiler().run(null, null, null,
            "-cp", classes.toString(), "-d", classes.toString(), file.toString());
        says("README.md", "the example");
        due("compiles", failed == 0, true);
        if (failed == 0) {
            Method run = Class.forName(EXAMPLE).getDeclaredMethod("run");
            run.setAccessible(true);
            run.invoke(null);
        }
    }

    private static boolean shows(List<String> lines, Pattern pattern, int group, String name) {
        return lines.stream().map(pattern::matcher)
            .anyMatch(line -> line.matches() && line.group(group).equals(name));
    }

    private static void showsTheFace(List<String> readme, List<String> lines)
            throws IllegalAccessException {
        says("README.md", "every method of the face is shown, with an answer if it has one");
        for (Method method : CopyPolls.class.getDeclaredMethods()) {
            if (Modifier.isPublic(method.getModifiers())) {
                boolean isVoid = method.getReturnType() == void.class;
                due(method.getName(), isVoid || shows(lines, ANSWERED, 2, method.getName()), true);
                due(method.getName() + " is called",
                    lines.stream().anyMatch(line -> line.contains("house." + method.getName() + "(")), true);
                for (Class<?> thrown : method.getExceptionTypes()) {
                    due(method.getName() + " throws " + thrown.getSimpleName(), lines.stream()
                        .anyMatch(line -> line.startsWith("house." + method.getName() + "(")
                            && line.endsWith("// throws " + thrown.getSimpleName())), true);
                }
            }
        }
        says("README.md", "every constant of the face is told with its value");
        for (Field field : CopyPolls.class.getDeclaredFields()) {
            if (Modifier.isPublic(field.getModifiers())) {
                String row = "| `" + field.getName() + "` | " + field.get(null) + " |";
                due(row, readme.stream().anyMatch(line -> line.startsWith(row)), true);
            }
        }
    }

    private static void everyAnswerIsShown(List<String> lines) {
        says("README.md", "every call but octet() has its answer behind it");
        for (String line : lines) {
            Matcher call = CALL.matcher(line);
            if (call.matches() && !call.group(1).equals("octet")) {
                due(line, ANSWERED.matcher(line).matches(), true);
            }
        }
    }

    /** An answer below zero is a refusal but for a DIGEST, which the reader is shown. */
    private static void digestsBelowZero(List<String> lines) {
        says("README.md", "a DIGEST may be below zero");
        due("digest()", lines.stream()
            .anyMatch(line -> line.matches("house\\.digest\\(\\);\\s*// -\\d+.*")), true);
        due("polled(i, 2)", lines.stream()
            .anyMatch(line -> line.matches("house\\.polled\\(\\d+, 2\\);\\s*// -\\d+.*")), true);
    }

    private static void namesTheTests(List<String> readme) throws IOException {
        says("README.md", "the tests of the project, one a row");
        try (Stream<Path> found = Files.list(TESTS)) {
            for (Path test : found.sorted().collect(Collectors.toList())) {
                String row = "| `" + test.getFileName().toString().replace(".java", "") + "` | ";
                due(row, readme.stream().anyMatch(line -> line.startsWith(row)), true);
            }
        }
        says("README.md", "how they are run");
        due(".ci/run", readme.contains(".ci/run"), true);
    }

    public static void main(String[] args) throws IOException, ReflectiveOperationException {
        List<String> readme = Files.readAllLines(README);
        List<String> lines = example(readme);
        everyAnswerIsShown(lines);
        showsTheFace(readme, lines);
        digestsBelowZero(lines);
        namesTheTests(readme);
        runExample(lines);
        end();
    }
}
