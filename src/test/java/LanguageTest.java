import java.io.IOException;
import java.nio.file.Files;
import java.nio.file.Path;
import java.util.regex.Pattern;

/** Words of Java that ../shared/LANGUAGE.md rules out; it is run from the project's folder. */
public final class LanguageTest {
    private static final String[] RULED_OUT = {
        "\\bimport\\b", "\\bpackage\\b", "->", "::", "\\bfinally\\b", "\\bsynchronized\\b", "\\bassert\\b",
        "\\bcatch\\b", "\\bstatic\\s*\\{", "\\bprotected\\b", "\\bvar\\b", "Exact\\b", "\\bSystem\\.(out|err|in)",
        "\\bextends\\s+\\w*(Exception|Error)\\b", "\\b(hashCode|toString|equals)\\b", "\\bvolatile\\b", "\\bThread\\b",
    };

    public static void main(String[] args) throws IOException {
        String source = Files.readString(Path.of("src/main/java/SlittingOffice.java"));
        String code = source.replaceAll("(?s)/\\*.*?\\*/", "").replaceAll("//[^\n]*", "").replaceAll("\"[^\"\n]*\"", "\"\"");
        for (String word : RULED_OUT) {
            Checks.due("finding " + word, Pattern.compile(word).matcher(code).find(), false);
        }
        Checks.due("finding a sign above 126", Pattern.compile("[^\n\\x20-\\x7e]").matcher(source).find(), false);
        Checks.finish();
    }
}
