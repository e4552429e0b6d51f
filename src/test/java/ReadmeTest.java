import java.io.IOException;
import java.lang.reflect.InvocationTargetException;
import java.lang.reflect.Method;
import java.lang.reflect.Modifier;
import java.net.URL;
import java.net.URLClassLoader;
import java.nio.file.Files;
import java.nio.file.Path;
import java.util.ArrayList;
import java.util.List;
import java.util.regex.Matcher;
import java.util.regex.Pattern;
import java.util.stream.Stream;
import javax.tools.JavaCompiler;
import javax.tools.ToolProvider;

/** What README.md says is so: its example answers as its comments tell, its tables name all. */
final class ReadmeTest {
    private static final Path README = Path.of("README.md");
    private static final Path TESTS = Path.of("src/test/java");
    private static final Checks CHECKS = new Checks("ReadmeTest");

    /** A call of the example, and the answer at the start of the comment behind it. */
    private static final Pattern ANSWERED = Pattern.compile("(mover\\..*); *// (-?\\d+)\\b.*");

    public static void main(String[] args) throws IOException, ReflectiveOperationException {
        String text = Files.readString(README);
        runExample(exampleOf(text));
        checkMethodsAreNamed(text);
        checkTestsAreNamed(text);
        CHECKS.end();
    }

    private static String exampleOf(String text) {
        Matcher block = Pattern.compile("```java\n(.*?)```", Pattern.DOTALL).matcher(text);
        return block.find() ? block.group(1) : "";
    }

    private static void runExample(String example)
            throws IOException, ReflectiveOperationException {
        List<String> asked = new ArrayList<>();
        List<Long> due = new ArrayList<>();
        String source = sourceOf(example, asked, due);
        CHECKS.holds("the example tells answers", !asked.isEmpty());
        long[] got = answersOf(source);
        CHECKS.same("answers of the example", asked.size(), got.length);
        for (int i = 0; i < got.length && i < asked.size(); i++) {
            CHECKS.same("README.md: " + asked.get(i), due.get(i), got[i]);
        }
    }

    private static String sourceOf(String example, List<String> asked, List<Long> due) {
        StringBuilder body = new StringBuilder();
        for (String line : example.split("\n")) {
            Matcher answered = ANSWERED.matcher(line);
            if (answered.matches()) {
                body.append("got[").append(asked.size()).append("] = ");
                body.append(answered.group(1)).append(";\n");
                asked.add(answered.group(1));
                due.add(Long.parseLong(answered.group(2)));
            } else {
                body.append(line).append('\n');
            }
        }
        return "public class Example { public static long[] answers() { long[] got = new long["
                + asked.size() + "];\n" + body + "return got; } }\n";
    }

    private static long[] answersOf(String source)
            throws IOException, ReflectiveOperationException {
        Path room = Files.createTempDirectory("readme");
        try {
            Path file = room.resolve("Example.java");
            Files.writeString(file, source);
            JavaCompiler compiler = ToolProvider.getSystemJavaCompiler();
            int code = compiler.run(null, null, null, "-cp", System.getProperty("java.class.path"),
                    "-d", room.toString(), file.toString());
            CHECKS.same("javac on the example", 0, code);
            return code == 0 ? run(room) : new long[0];
        } finally {
            Files.deleteIfExists(room.resolve("Example.java"));
            Files.deleteIfExists(room.resolve("Example.class"));
            Files.deleteIfExists(room);
        }
    }

    private static long[] run(Path room) throws IOException, ReflectiveOperationException {
        URL[] places = {room.toUri().toURL()};
        try (URLClassLoader loader = new URLClassLoader(places, ReadmeTest.class.getClassLoader())) {
            return (long[]) loader.loadClass("Example").getMethod("answers").invoke(null);
        } catch (InvocationTargetException thrown) {
            CHECKS.report("the example threw " + thrown.getCause());
            return new long[0];
        }
    }

    private static void checkMethodsAreNamed(String text) {
        for (Method method : CodeMover.class.getDeclaredMethods()) {
            if (Modifier.isPublic(method.getModifiers())) {
                CHECKS.holds("README.md names " + method.getName(),
                        text.contains("`" + method.getName() + "`"));
            }
        }
    }

    private static void checkTestsAreNamed(String text) throws IOException {
        try (Stream<Path> files = Files.list(TESTS)) {
            for (Path file : (Iterable<Path>) files::iterator) {
                String name = file.getFileName().toString().replace(".java", "");
                CHECKS.holds("README.md names " + name, text.contains("`" + name + "`"));
            }
        }
        Matcher row = Pattern.compile("\\| `(\\w+Test)` \\|").matcher(text);
        while (row.find()) {
            CHECKS.holds("there is a test " + row.group(1),
                    Files.exists(TESTS.resolve(row.group(1) + ".java")));
        }
    }
}
