import java.io.IOException;
import java.lang.reflect.Executable;
import java.lang.reflect.Field;
import java.lang.reflect.Modifier;
import java.nio.file.Files;
import java.nio.file.Path;
import java.util.ArrayList;
import java.util.List;
import java.util.regex.Pattern;

/** Words of Java that ../shared/LANGUAGE.md rules out, and its counts; tests run in the project's folder. */
public final class LanguageTest {
    private static final String[] RULED_OUT = {
        "\\bimport\\b", "\\bpackage\\b", "->", "::", "\\bfinally\\b", "\\bsynchronized\\b", "\\bassert\\b",
        "\\bcatch\\b", "\\bstatic\\s*\\{", "\\bprotected\\b", "\\bvar\\b", "Exact\\b", "\\bSystem\\.(out|err|in)",
        "\\bextends\\s+\\w*(Exception|Error)\\b", "\\b(hashCode|toString|equals)\\b", "\\bvolatile\\b", "\\bThread\\b",
    };

    private static final int MOST_CLASSES = 12;
    private static final int MOST_FIELDS = 20;
    private static final int MOST_PARAMETERS = 7;
    private static final int MOST_LINES = 60;

    public static void main(String[] args) throws IOException {
        String source = Files.readString(Path.of("src/main/java/SlittingOffice.java"));
        String code = source.replaceAll("(?s)/\\*.*?\\*/", "").replaceAll("//[^\n]*", "").replaceAll("\"[^\"\n]*\"", "\"\"");
        for (String word : RULED_OUT) {
            Checks.due("finding " + word, Pattern.compile(word).matcher(code).find(), false);
        }
        Checks.due("finding a sign above 126", Pattern.compile("[^\n\\x20-\\x7e]").matcher(source).find(), false);
        linesOfMethods(source);
        List<Class<?>> classes = new ArrayList<>(List.of(SlittingOffice.class.getDeclaredClasses()));
        classes.add(SlittingOffice.class);
        Checks.due("classes are at most " + MOST_CLASSES, classes.size() <= MOST_CLASSES, true);
        for (Class<?> one : classes) {
            fields(one);
            parameters(one);
        }
        Checks.finish();
    }

    /** From a line that opens a method to the brace at the same distance from the left. */
    private static void linesOfMethods(String source) {
        String opening = "";
        String end = "";
        int lines = 0;
        for (String line : source.split("\n")) {
            lines++;
            if (end.isEmpty() && line.matches(" +(public|private) .*\\).*") && !line.contains(";")) {
                opening = line.trim();
                end = line.replaceAll("\\S.*", "}");
                lines = 1;
            } else if (!end.isEmpty() && line.equals(end)) {
                Checks.due("\"" + opening + "\" has at most " + MOST_LINES + " lines", lines <= MOST_LINES, true);
                end = "";
            }
        }
    }

    private static void fields(Class<?> one) {
        int own = 0;
        for (Field field : one.getDeclaredFields()) {
            int modifiers = field.getModifiers();
            if (!Modifier.isStatic(modifiers)) {
                own++;
            } else {
                boolean isConstant = Modifier.isFinal(modifiers) && field.getType().isPrimitive();
                Checks.due(field + " is a constant", isConstant, true);
            }
        }
        Checks.due(one + " has at most " + MOST_FIELDS + " fields", own <= MOST_FIELDS, true);
    }

    private static void parameters(Class<?> one) {
        List<Executable> methods = new ArrayList<>(List.of(one.getDeclaredMethods()));
        methods.addAll(List.of(one.getDeclaredConstructors()));
        for (Executable method : methods) {
            boolean few = method.getParameterCount() <= MOST_PARAMETERS;
            Checks.due(method + " has at most " + MOST_PARAMETERS + " parameters", few, true);
        }
    }
}
