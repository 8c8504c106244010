import java.io.IOException;
import java.io.UncheckedIOException;
import java.nio.file.Files;
import java.nio.file.Path;
import java.util.ArrayList;
import java.util.LinkedHashMap;
import java.util.LinkedHashSet;
import java.util.List;
import java.util.Map;
import java.util.Set;

/** The sentences of ../shared/DOC.md, for tests to quote; tests run in the project's folder. */
final class Document {
    private static final Path FILE = Path.of("../shared/DOC.md");
    private static final Map<String, List<String>> PARTS = read();
    private static final Set<String> quoted = new LinkedHashSet<>();

    private Document() {
    }

    private static Map<String, List<String>> read() {
        Map<String, List<String>> parts = new LinkedHashMap<>();
        String part = "";
        boolean inCode = false;
        for (String line : lines()) {
            if (line.startsWith("```")) {
                inCode = !inCode;
            } else if (line.startsWith("## ")) {
                part = line.substring(3).replaceAll(":.*", "");
            } else if (!inCode && !line.isBlank() && !line.startsWith("#")) {
                parts.computeIfAbsent(part, p -> new ArrayList<>()).addAll(sentencesIn(line));
            }
        }
        return parts;
    }

    private static List<String> lines() {
        try {
            return Files.readAllLines(FILE);
        } catch (IOException e) {
            throw new UncheckedIOException(e);
        }
    }

    /** Parts at a full stop or a semicolon; without a method's signature, a list's stroke, and marks of code. */
    private static List<String> sentencesIn(String line) {
        String plain = line.replaceAll("^`[^`]*`: ", "").replaceAll("^- ", "").replace("`", "");
        return List.of(plain.split("(?<=[.;]\\)?) "));
    }

    /** Says by which sentence the next answers are due; it has to stand in that part, word by word. */
    static void quote(String part, String sentence) {
        Checks.under(part + ", \"" + sentence + "\"");
        if (!PARTS.getOrDefault(part, List.of()).contains(sentence)) {
            Checks.complain("is no sentence of the document");
        }
        if (!quoted.add(part + ": " + sentence)) {
            Checks.complain("is quoted twice");
        }
    }

    /** Each sentence has to be quoted by a test, or to be one of these. */
    static void dueAllQuotedBut(List<String> others) {
        Checks.under("sentences of the document");
        List<String> known = new ArrayList<>(quoted);
        known.addAll(others);
        PARTS.forEach((part, sentences) -> {
            for (String sentence : sentences) {
                if (!known.contains(part + ": " + sentence)) {
                    Checks.complain("no test quotes " + part + ": " + sentence);
                }
            }
        });
    }
}
