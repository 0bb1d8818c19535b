import java.io.IOException;
import java.nio.file.Files;
import java.nio.file.Path;
import java.util.List;
import java.util.regex.Matcher;
import java.util.regex.Pattern;

/** Some rules of LANGUAGE.md that can be read off the text of the class; run from the project's folder. */
public final class SourceTest {
    private static final int MOST_LINES = 60;
    private static final int MOST_PARAMETERS = 7;
    private static final int MOST_CLASSES = 12;

    public static void main(String[] args) throws IOException {
        List<String> lines = Files.readAllLines(Path.of("src/main/java/WheelBook.java"));
        String code = String.join("\n", lines).replaceAll("/\\*\\*.*?\\*/|//[^\\n]*", "").replaceAll("\"[^\"\\n]*\"", "\"\"");
        forbidden(code);
        Check.is("rule 4: imports", found(code, "(?m)^import "), 2);
        Check.is("rule 11: classes", found(code, "\\bclass \\w+") <= MOST_CLASSES, true);
        parameters(code);
        methods(lines);
        Check.end("SourceTest");
    }

    private static int found(String code, String pattern) {
        Matcher matcher = Pattern.compile(pattern).matcher(code);
        int many = 0;
        while (matcher.find()) {
            many++;
        }
        return many;
    }

    private static void forbidden(String code) {
        String[] patterns = {"->", "::", "\\btry\\b", "\\bcatch\\b", "\\bfinally\\b", "\\bsynchronized\\b", "\\bassert\\b",
            "Exact\\(", "\\bpackage\\b", "\\bprotected\\b", "\\bvar\\b", "\\bdouble\\b", "\\bfloat\\b", "\\bSystem\\.(?!arraycopy)",
            "\\bObject\\b", "\\bMath\\.random\\b", "static \\{", "static (?!final)\\w+ \\w+( =|;)", "\\bfor \\(;;", "while \\(true"};
        for (String pattern : patterns) {
            Check.is("LANGUAGE.md forbids " + pattern, found(code, pattern), 0);
        }
        Check.is("rule 6: only these are thrown", found(code, "\\bthrow\\b"),
                found(code, "throw new (NoSuchElementException|IllegalArgumentException)\\(\"\"\\);"));
    }

    private static void parameters(String code) {
        Matcher matcher = Pattern.compile("\\b\\w+ \\w+\\(((?:\\w+(?:\\[\\])? \\w+(?:, )?)*)\\)[^;{]*\\{").matcher(code);
        while (matcher.find()) {
            Check.is("rule 11: parameters of " + matcher.group(), matcher.group(1).split(",").length <= MOST_PARAMETERS, true);
        }
    }

    private static void methods(List<String> lines) {
        int begun = -1;
        for (int i = 0; i < lines.size(); i++) {
            String line = lines.get(i);
            if (line.matches(" {4}( {4})?[a-z].*\\(.*\\).*\\{") || line.matches(" {12}throws .*\\{")) {
                begun = i;
            }
            if (line.matches(" {4}( {4})?\\}") && begun >= 0) {
                Check.is("rule 11: lines of " + lines.get(begun).trim(), i - begun < MOST_LINES, true);
                begun = -1;
            }
        }
    }
}
