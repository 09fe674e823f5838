import java.lang.reflect.Method;
import java.net.URL;
import java.net.URLClassLoader;
import java.nio.file.Files;
import java.nio.file.Path;
import java.util.ArrayList;
import java.util.List;
import java.util.regex.Matcher;
import java.util.regex.Pattern;
import java.util.stream.Stream;
import javax.tools.ToolProvider;

/** README.md: its lines of Java are compiled as they stand, and each call that is shown is to answer what stands behind it. */
public final class ReadmeTest {
    private static final Pattern FENCE = Pattern.compile("(?ms)^```java\n(.*?)^```$");
    private static final Pattern SHOWN = Pattern.compile("(x\\.(\\w+)\\(.*\\));\\s*// (-?\\d+|[A-Z]+)\\b.*");
    private static final List<String> CALLS = new ArrayList<>();

    public static void main(String[] args) throws Exception {
        String page = Files.readString(Path.of("README.md"));
        answers(page);
        everyCall();
        everyTest(page);
        Check.finish();
    }

    private static void answers(String page) throws Exception {
        StringBuilder body = new StringBuilder();
        Matcher fence = FENCE.matcher(page);
        while (fence.find()) {
            for (String line : fence.group(1).split("\n")) body.append(asked(line)).append('\n');
        }
        Path folder = Files.createTempDirectory("readme");
        Path file = folder.resolve("Shown.java");
        Files.writeString(file, "public class Shown {\npublic static void session(java.util.List<Long> got) {\n" + body + "}\n}\n");
        String classes = System.getProperty("java.class.path");
        int failed = ToolProvider.getSystemJavaCompiler().run(null, null, null, "-cp", classes, "-d", folder.toString(), file.toString());
        Check.due("README.md's lines are refused by the compiler", failed, 0);
        if (failed == 0) compare(folder);
        try (Stream<Path> all = Files.list(folder)) {
            for (Path one : all.toList()) Files.delete(one);
        }
        Files.delete(folder);
    }

    /** A call with its answer is asked; a line that only begins as one has no answer behind it. */
    private static String asked(String line) {
        Matcher shown = SHOWN.matcher(line);
        if (!shown.matches()) {
            Check.due("an answer behind " + line, line.startsWith("x.") ? 0 : 1, 1);
            return line;
        }
        CALLS.add(line);
        String want = shown.group(3);
        String due = Character.isLetter(want.charAt(0)) ? "ValueNumberer." + want : want + "L";
        return "got.add((long) " + shown.group(1) + "); got.add((long) " + due + ");";
    }

    private static void compare(Path folder) throws Exception {
        List<Long> got = new ArrayList<>();
        try (URLClassLoader loader = new URLClassLoader(new URL[] {folder.toUri().toURL()})) {
            Method session = loader.loadClass("Shown").getMethod("session", List.class);
            session.invoke(null, got);
        }
        Check.due("answers", got.size(), 2L * CALLS.size());
        for (int i = 0; i < CALLS.size() && 2 * i + 1 < got.size(); i++) {
            Check.due("README.md: " + CALLS.get(i), got.get(2 * i), got.get(2 * i + 1));
        }
    }

    /** Each method of the face is shown at work; feed stands in the loops, too. */
    private static void everyCall() {
        for (Method m : ValueNumberer.class.getMethods()) {
            if (m.getDeclaringClass() != ValueNumberer.class) continue;
            boolean isShown = CALLS.stream().anyMatch(line -> line.startsWith("x." + m.getName() + "("));
            Check.due("README.md shows " + m.getName(), isShown ? 1 : 0, 1);
        }
    }

    private static void everyTest(String page) throws Exception {
        try (Stream<Path> files = Files.list(Path.of("src/test/java"))) {
            for (Path file : files.toList()) {
                String name = file.getFileName().toString().replace(".java", "");
                if (!name.endsWith("Test")) continue;
                Check.due("README.md names " + name, page.contains("`" + name + "`") ? 1 : 0, 1);
            }
        }
        Matcher named = Pattern.compile("\\b[A-Z]\\w*Test\\b").matcher(page);
        while (named.find()) {
            boolean isThere = Files.exists(Path.of("src/test/java/" + named.group() + ".java"));
            Check.due("there is " + named.group(), isThere ? 1 : 0, 1);
        }
    }
}
