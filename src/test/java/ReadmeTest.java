import java.io.File;
import java.io.IOException;
import java.lang.reflect.InvocationTargetException;
import java.net.URL;
import java.net.URLClassLoader;
import java.nio.file.Files;
import java.nio.file.Path;
import java.util.regex.Matcher;
import java.util.regex.Pattern;
import javax.tools.ToolProvider;

/**
 * The examples of README.md, compiled and run as they stand there: a line "call;  // answer: words"
 * must answer so. A block that begins with "static" is a function that the later blocks may call.
 */
public final class ReadmeTest {
    private static final Pattern BLOCK = Pattern.compile("(?s)```java\n(.*?)```");
    private static final Pattern ANSWERED = Pattern.compile("(.*);\\s+// (-?[a-z0-9.]+)(:.*)?");

    private ReadmeTest() {
    }

    /** Called by the class that is made of the blocks. */
    public static void answers(String line, Object got, String due) {
        Check.holds(line + " answered " + got + ", README.md says " + due, String.valueOf(got).equals(due));
    }

    private static String quoted(String text) {
        return '"' + text.replace("\\", "\\\\").replace("\"", "\\\"") + '"';
    }

    private static int asked;

    private static String body(String block) {
        StringBuilder body = new StringBuilder();
        for (String line : block.split("\n")) {
            Matcher m = ANSWERED.matcher(line);
            if (m.matches()) {
                asked++;
                body.append("ReadmeTest.answers(").append(quoted(m.group(1))).append(", ").append(m.group(1));
                body.append(", ").append(quoted(m.group(2))).append(");\n");
            } else {
                Check.holds("an answer can be read from '" + line + "'", !line.contains("//"));
                body.append(line).append('\n');
            }
        }
        return body.toString();
    }

    private static String program(String readme) {
        StringBuilder functions = new StringBuilder();
        StringBuilder runs = new StringBuilder();
        Matcher m = BLOCK.matcher(readme);
        while (m.find()) {
            if (m.group(1).startsWith("static")) {
                functions.append(m.group(1));
            } else {
                runs.append("{\n").append(body(m.group(1))).append("}\n");
            }
        }
        return "public final class Examples {\n" + functions + "public static void run() {\n" + runs + "}\n}\n";
    }

    private static void compileAndRun(Path place, String program) throws IOException, ReflectiveOperationException {
        Path source = place.resolve("Examples.java");
        Files.writeString(source, program);
        int code = ToolProvider.getSystemJavaCompiler().run(null, System.out, System.out,
            "-cp", System.getProperty("java.class.path"), "-d", place.toString(), source.toString());
        Check.same("javac of the examples in README.md", code, 0);
        if (code != 0) {
            return;
        }
        try (URLClassLoader loader = new URLClassLoader(new URL[] {place.toUri().toURL()})) {
            loader.loadClass("Examples").getMethod("run").invoke(null);
        } catch (InvocationTargetException e) {
            Check.holds("an example in README.md threw " + e.getCause(), false);
        }
    }

    public static void main(String[] args) throws IOException, ReflectiveOperationException {
        String readme = Files.readString(Path.of("README.md"));
        Path place = Files.createTempDirectory("examples");
        try {
            compileAndRun(place, program(readme));
        } finally {
            for (File f : place.toFile().listFiles()) {
                f.delete();
            }
            Files.delete(place);
        }
        Check.holds("README.md has examples with answers", asked > 0);
        for (String name : new File("src/test/java").list()) {
            if (name.endsWith("Test.java")) {
                String test = name.substring(0, name.length() - ".java".length());
                Check.holds("README.md names " + test, readme.contains("`" + test + "`"));
            }
        }
        Check.end("ReadmeTest");
    }
}
