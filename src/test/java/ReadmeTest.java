import java.io.IOException;
import java.lang.reflect.Method;
import java.lang.reflect.Modifier;
import java.nio.file.DirectoryStream;
import java.nio.file.Files;
import java.nio.file.Path;
import java.util.List;
import java.util.TreeSet;
import java.util.regex.Matcher;
import java.util.regex.Pattern;
import javax.tools.ToolProvider;

/** README.md: its example is run as it stands there, line by line; tests run in the project's folder. */
public final class ReadmeTest {
    private static final Path README = Path.of("README.md");
    private static final Path TESTS = Path.of("src/test/java");

    /** A call, perhaps kept under a name, and what it answers. */
    private static final Pattern STEP = Pattern.compile(
        "(?:int (\\w+) = )?(office\\.\\w+\\([^()]*\\)); +// (throws )?(-?\\w+)(?:: .*)?");

    private static final Pattern ROW = Pattern.compile("\\| `(\\w+)` \\|.*");

    public static void main(String[] args) throws Exception {
        List<String> lines = Files.readAllLines(README);
        List<String> example = exampleIn(lines);
        everyCallIsShown(example);
        runExample(example);
        everyTestIsNamed(lines);
        Checks.finish();
    }

    private static List<String> exampleIn(List<String> lines) {
        int begin = lines.indexOf("```java");
        int end = begin + lines.subList(begin, lines.size()).indexOf("```");
        return lines.subList(begin + 1, end);
    }

    private static void everyCallIsShown(List<String> example) {
        Checks.under("README.md");
        String text = String.join("\n", example);
        for (Method method : SlittingOffice.class.getDeclaredMethods()) {
            if (Modifier.isPublic(method.getModifiers())) {
                Checks.due(method.getName() + " is shown", text.contains("office." + method.getName() + "("), true);
            }
        }
    }

    /** The example is compiled beside this test, so that it can reach Checks. */
    private static void runExample(List<String> example) throws Exception {
        Path classes = Path.of(ReadmeTest.class.getProtectionDomain().getCodeSource().getLocation().toURI());
        Path source = classes.resolve("ReadmeExample.java");
        Files.writeString(source, programOf(example));
        int failed = ToolProvider.getSystemJavaCompiler().run(null, null, null,
            "-cp", classes.toString(), "-d", classes.toString(), source.toString());
        Checks.due("compiling the example", failed, 0);
        if (failed == 0) {
            Class.forName("ReadmeExample").getMethod("play").invoke(null);
        }
    }

    private static String programOf(List<String> example) {
        StringBuilder program = new StringBuilder("public final class ReadmeExample {\n");
        program.append("public static void play() {\n");
        for (String line : example) {
            program.append(checkedLine(line)).append('\n');
        }
        return program.append("}\n}\n").toString();
    }

    private static String checkedLine(String line) {
        Matcher step = STEP.matcher(line);
        if (!step.matches()) {
            boolean answersNothing = line.isEmpty() || line.startsWith("// ") || line.contains(" = new ");
            Checks.due("\"" + line + "\" tells an answer", answersNothing, true);
            return line;
        }
        String name = step.group(1);
        String call = step.group(2);
        String answer = step.group(4);
        if (step.group(3) != null) {
            return String.format("Checks.dueThrow(\"%s\", %s.class, () -> %s);", call, answer, call);
        }
        if (name != null) {
            return String.format("int %s = %s; Checks.due(\"%s\", %s, %s);", name, call, call, name, answer);
        }
        return String.format("Checks.due(\"%s\", %s, %s);", call, call, answer);
    }

    private static void everyTestIsNamed(List<String> lines) throws IOException {
        TreeSet<String> named = new TreeSet<>();
        for (String line : lines) {
            Matcher row = ROW.matcher(line);
            if (row.matches()) {
                named.add(row.group(1) + ".java");
            }
        }
        TreeSet<String> tests = new TreeSet<>();
        try (DirectoryStream<Path> files = Files.newDirectoryStream(TESTS, "*Test.java")) {
            files.forEach(file -> tests.add(file.getFileName().toString()));
        }
        Checks.due("tests in the table " + named + " where " + tests, named.equals(tests), true);
    }
}
