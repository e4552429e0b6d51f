import java.io.IOException;
import java.nio.file.Files;
import java.nio.file.Path;
import java.util.List;
import java.util.regex.Matcher;
import java.util.regex.Pattern;

/** The rules of LANGUAGE.md that can be seen in the text of the class. */
final class LanguageTest {
    private static final Path SOURCE = Path.of("src/main/java/CodeMover.java");
    private static final int LONGEST_METHOD = 60;
    private static final int MOST_CLASSES = 12;
    private static final int MOST_PARAMETERS = 7;

    private static final String[] RULED_OUT = {
        "\\bpackage\\b", "\\bimport\\b", "->", "::", "\\bcatch\\b", "\\btry\\b", "\\bfinally\\b",
        "\\bsynchronized\\b", "\\bassert\\b", "\\bprotected\\b", "\\bstatic\\s*\\{", "Exact\\b",
        "\\bdouble\\b", "\\bfloat\\b", "\\bvar\\b", "\\bObject\\b", "\\bSystem\\.(?!arraycopy)",
        "\\bMath\\.random", "\\bThread\\b", "\\bgetMessage\\b", "\\bhashCode\\b", "\\btoString\\b",
        "while \\(true\\)", "for \\(;;\\)",
    };

    private static final Checks CHECKS = new Checks("LanguageTest");

    public static void main(String[] args) throws IOException {
        List<String> lines = Files.readAllLines(SOURCE);
        String code = withoutComments(String.join("\n", lines));
        for (String ruledOut : RULED_OUT) {
            Matcher found = Pattern.compile(ruledOut).matcher(code);
            CHECKS.holds("the class has no " + ruledOut, !found.find());
        }
        for (String line : lines) {
            CHECKS.holds("ASCII alone: " + line, line.chars().allMatch(c -> c >= 32 && c < 127));
            CHECKS.holds("at most 100 signs: " + line, line.length() <= 100);
        }
        checkThrows(code);
        checkStaticFields(code);
        checkMakings(code.split("\n"));
        checkMethods(code.split("\n"));
        CHECKS.holds("at most some twelve classes",
                Pattern.compile("\\bclass\\b").matcher(code).results().count() <= MOST_CLASSES);
        CHECKS.end();
    }

    private static String withoutComments(String text) {
        String noTexts = text.replaceAll("\"[^\"\n]*\"", "\"\"");
        String noBlocks = Pattern.compile("/\\*.*?\\*/", Pattern.DOTALL).matcher(noTexts)
                .replaceAll("");
        return noBlocks.replaceAll("//[^\n]*", "");
    }

    private static void checkThrows(String code) {
        Matcher thrown = Pattern.compile("\\bthrow\\b[^;]*;").matcher(code);
        while (thrown.find()) {
            CHECKS.holds(thrown.group() + " keeps to rule 6", thrown.group().matches("throw new "
                    + "(IllegalState|IllegalArgument|IndexOutOfBounds)Exception\\(\"\"\\);"));
        }
    }

    private static void checkStaticFields(String code) {
        Matcher field = Pattern.compile("\\bstatic\\b[^;{(]*=").matcher(code);
        while (field.find()) {
            CHECKS.holds(field.group() + " keeps to rule 5",
                    field.group().matches("static final (int|long) [A-Z_]+ ="));
        }
    }

    /**
     * All calls of a run live in one room, so rows and parts are made with the object: what is made
     * stands in a field's initialiser, in the constructor of the class, or behind a throw.
     */
    private static void checkMakings(String[] lines) {
        String[] allowed = {
            " *throw new .*",
            " {8}(private )?final int\\[\\] \\w+ = new int\\[[^\\]]*\\];",
            " {8}(program = new Program\\(\\)|sets = new Sets\\(program\\)"
                    + "|latest = new Journey\\(program\\));",
        };
        for (String line : lines) {
            boolean fits = !Pattern.compile("\\bnew\\b").matcher(line).find();
            for (String form : allowed) {
                fits = fits || line.matches(form);
            }
            CHECKS.holds("made once or thrown: " + line.trim(), fits);
        }
    }

    /** Methods are told by the indentation of their first and last lines. */
    private static void checkMethods(String[] lines) {
        int start = -1;
        String indent = "";
        for (int i = 0; i < lines.length; i++) {
            Matcher head = Pattern.compile("^( {4}| {8})[\\w][^=;]*\\(([^)]*)\\).*$")
                    .matcher(lines[i]);
            if (start < 0 && head.matches()) {
                start = i;
                indent = head.group(1);
                CHECKS.holds("at most seven parameters: " + lines[i],
                        head.group(2).split(",").length <= MOST_PARAMETERS);
            }
            if (start >= 0 && lines[i].equals(indent + "}")) {
                CHECKS.holds("a short method: " + lines[start], i - start < LONGEST_METHOD);
                start = -1;
            }
        }
    }
}
