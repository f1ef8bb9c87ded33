import java.io.IOException;
import java.lang.reflect.Method;
import java.lang.reflect.Modifier;
import java.net.URL;
import java.net.URLClassLoader;
import java.nio.file.DirectoryStream;
import java.nio.file.Files;
import java.nio.file.Path;
import java.util.Collections;
import java.util.regex.Matcher;
import java.util.regex.Pattern;
import javax.tools.ToolProvider;

/** README.md: its example answers what it says there, and it leaves out no call and no test. */
public final class ReadmeTest {
    private static final Pattern BLOCK = Pattern.compile("(?s)```java\n(.*?)```");
    private static final Pattern ANSWER = Pattern.compile("(?m)^(x\\..*\\)); +// (-?\\d+|true|false): .*$");
    private static final int ANSWERS = 13;

    public static void main(String[] args) throws Exception {
        String text = Files.readString(Path.of("README.md"));
        calls(text);
        tests(text);
        example(text);
        Check.end();
    }

    private static void calls(String text) {
        Check.says("README.md says how to use the class: every call with its parameters");
        for (Method m : PortGuard.class.getDeclaredMethods()) {
            if (Modifier.isPublic(m.getModifiers())) {
                String parameters = String.join(", ", Collections.nCopies(m.getParameterCount(), "\\w+"));
                Pattern row = Pattern.compile("(?m)^\\| `" + m.getName() + "\\(" + parameters + "\\)` \\| ");
                Check.yes(m.getName() + " is told", row.matcher(text).find());
            }
        }
    }

    private static void tests(String text) throws IOException {
        Check.says("README.md says how to run its tests: every test and helper");
        Check.yes(".ci/run", text.contains("\n    .ci/run\n"));
        try (DirectoryStream<Path> files = Files.newDirectoryStream(Path.of("src/test/java"), "*.java")) {
            for (Path file : files) {
                String name = file.getFileName().toString().replace(".java", "");
                Check.yes(name + " is told", text.contains("`" + name + "`"));
            }
        }
    }

    private static void example(String text) throws Exception {
        Check.says("README.md says how to use the class: its example");
        Matcher block = BLOCK.matcher(text);
        Check.yes("there is an example", block.find());
        Matcher answers = ANSWER.matcher(block.group(1));
        Check.due("lines that tell an answer", answers.results().count(), ANSWERS);
        String body = answers.replaceAll(found -> Matcher.quoteReplacement(
            "ReadmeTest.told(\"" + found.group(1) + "\", \"\" + " + found.group(1) + ", \"" + found.group(2) + "\");"));
        run("public final class Example { public static void run() {\n" + body + "} }\n");
    }

    /** Public, as the example is loaded apart from this class and calls it from there. */
    public static void told(String call, String got, String want) {
        Check.same(call, got, want);
    }

    private static void run(String source) throws Exception {
        Path out = Files.createTempDirectory("example");
        Path file = Files.writeString(out.resolve("Example.java"), source);
        String[] options = {"-d", out.toString(), "-cp", System.getProperty("java.class.path"), file.toString()};
        Check.due("it compiles", ToolProvider.getSystemJavaCompiler().run(null, null, null, options), 0);
        try (URLClassLoader loader = new URLClassLoader(new URL[] {out.toUri().toURL()})) {
            loader.loadClass("Example").getMethod("run").invoke(null);
        }
        Files.delete(out.resolve("Example.class"));
        Files.delete(file);
        Files.delete(out);
    }
}
