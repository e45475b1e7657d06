import java.io.IOException;
import java.lang.reflect.Method;
import java.lang.reflect.Modifier;
import java.net.URL;
import java.net.URLClassLoader;
import java.nio.file.Files;
import java.nio.file.Path;
import java.util.List;
import java.util.regex.Matcher;
import java.util.regex.Pattern;
import javax.tools.ToolProvider;

/** README's example, compiled and run as it stands there: each call answers what is written behind it. All calls are named there, too. */
public final class ReadmeTest {
    private static final Pattern KEPT = Pattern.compile("int (\\w+) = x\\.\\w+\\(.*\\); +// (-?\\d+)(:.*)?");
    private static final Pattern ASKED = Pattern.compile("(x\\.\\w+\\(.*\\)); +// (-?\\d+)(:.*)?");
    private static final Pattern TOLD_NOTHING = Pattern.compile("|//.*|ComesBack x = new ComesBack\\(\\);|String \\w+ = \".*\";|for \\(char c : .*\\) x\\.feed\\(c, 1\\);");

    public static void main(String[] args) throws Exception {
        String readme = Files.readString(Path.of(System.getProperty("comesback.readme", "README.md")));
        Matcher block = Pattern.compile("(?s)```java\n(.*?)```").matcher(readme);
        Check.holds("README.md has an example", block.find());
        run(program(block.group(1).split("\n")));
        Check.holds("and no second one", !block.find());
        for (Method call : ComesBack.class.getDeclaredMethods()) {
            if (Modifier.isPublic(call.getModifiers())) Check.holds("README.md names " + call.getName(), readme.contains("`" + call.getName() + "`"));
        }
        Check.end();
    }

    /** Called by the example's program. */
    public static void due(String line, long got, long want) {
        Check.same(line, got, want);
    }

    private static String program(String[] lines) {
        StringBuilder body = new StringBuilder();
        int answers = 0;
        for (String line : lines) {
            Matcher kept = KEPT.matcher(line), asked = ASKED.matcher(line);
            if (kept.matches()) {
                body.append(line).append('\n').append(due(line, kept.group(1), kept.group(2)));
                answers++;
            } else if (asked.matches()) {
                body.append(due(line, asked.group(1), asked.group(2)));
                answers++;
            } else {
                Check.holds("an answer, where one is given, is told: " + line, TOLD_NOTHING.matcher(line).matches());
                body.append(line).append('\n');
            }
        }
        Check.holds("answers are told: " + answers, answers > 30);
        return "public final class Example {\npublic static void main(String[] args) {\n" + body + "}\n}\n";
    }

    private static String due(String line, String call, String answer) {
        return "ReadmeTest.due(\"" + line.replace("\\", "\\\\").replace("\"", "\\\"") + "\", " + call + ", " + answer + "L);\n";
    }

    private static void run(String program) throws Exception {
        Path folder = Files.createTempDirectory("readme");
        try {
            Path source = Files.writeString(folder.resolve("Example.java"), program);
            String classes = System.getProperty("java.class.path");
            int end = ToolProvider.getSystemJavaCompiler().run(null, null, null, "-cp", classes, "-d", folder.toString(), source.toString());
            Check.same("README's example compiles", end, 0);
            if (end == 0) runClass(folder);
        } finally {
            for (Path left : List.of(folder.resolve("Example.java"), folder.resolve("Example.class"), folder)) Files.deleteIfExists(left);
        }
    }

    private static void runClass(Path folder) throws IOException, ReflectiveOperationException {
        try (URLClassLoader loader = new URLClassLoader(new URL[] {folder.toUri().toURL()}, ReadmeTest.class.getClassLoader())) {
            Method main = loader.loadClass("Example").getMethod("main", String[].class);
            main.invoke(null, (Object) new String[0]);
        }
    }
}
