import java.io.IOException;
import java.lang.reflect.Constructor;
import java.lang.reflect.Field;
import java.lang.reflect.Method;
import java.lang.reflect.Modifier;
import java.nio.file.Files;
import java.nio.file.Path;
import java.util.Arrays;
import java.util.Set;
import java.util.TreeSet;
import java.util.regex.Matcher;
import java.util.regex.Pattern;

/** The face of the class is the document's and no more, and the file keeps to what can be seen of LANGUAGE.md. */
public final class FaceTest {
    private static final String[] FACE = {
        "append(int, int, int, int, int) int",
        "load(int) int IllegalArgumentException",
        "errorOffset() int",
        "state(int) int IllegalArgumentException",
        "player(int, int) int IndexOutOfBoundsException IllegalArgumentException",
        "link(int, int) int IndexOutOfBoundsException",
        "message(int, int) int NoSuchElementException IllegalArgumentException",
        "proposal(int) int NoSuchElementException IllegalArgumentException",
        "spread() int",
        "foretold(int) int IllegalArgumentException",
        "safest() int",
        "meanError() double",
        "propose(int) int IllegalArgumentException IllegalStateException",
        "ask(int) boolean IndexOutOfBoundsException IllegalStateException",
        "pass(int) int IllegalArgumentException",
        "power(int, boolean) boolean IndexOutOfBoundsException",
        "cut(int, int, boolean) boolean IndexOutOfBoundsException IllegalStateException",
        "lead(int) int IndexOutOfBoundsException",
        "undo() int",
        "checksum() long",
    };

    private FaceTest() {
    }

    private static String row(Method m) {
        StringBuilder row = new StringBuilder(m.getName()).append("(");
        for (Class<?> c : m.getParameterTypes()) {
            row.append(row.charAt(row.length() - 1) == '(' ? "" : ", ").append(c.getSimpleName());
        }
        row.append(") ").append(m.getReturnType().getSimpleName());
        for (Class<?> c : m.getExceptionTypes()) {
            row.append(" ").append(c.getSimpleName());
        }
        return row.toString();
    }

    private static void methods(Set<String> names) {
        Set<String> rows = new TreeSet<>();
        for (Method m : OneBeat.class.getDeclaredMethods()) {
            if (!Modifier.isPrivate(m.getModifiers())) {
                rows.add(row(m));
                names.add(m.getName());
                Check.holds(m + " is public and of objects", m.getModifiers() == Modifier.PUBLIC);
            }
        }
        Set<String> due = new TreeSet<>(Arrays.asList(FACE));
        Check.holds("methods " + rows + ", due are " + due, rows.equals(due));
        for (Method m : OneBeat.class.getDeclaredMethods()) {
            if (Modifier.isPrivate(m.getModifiers())) {
                Check.holds(m + " has a name of its own", !names.contains(m.getName()));
            }
        }
    }

    private static void constants() {
        Check.same("SYNTAX_ERROR", OneBeat.SYNTAX_ERROR, -2);
        Check.same("OUT_OF_RANGE", OneBeat.OUT_OF_RANGE, -3);
        Check.same("REPEATED", OneBeat.REPEATED, -4);
        Check.same("TOO_DEEP", OneBeat.TOO_DEEP, -5);
        Set<String> seen = new TreeSet<>();
        for (Field f : OneBeat.class.getDeclaredFields()) {
            if (!Modifier.isPrivate(f.getModifiers())) {
                seen.add(f.getName());
            }
        }
        Set<String> due = new TreeSet<>(Arrays.asList("SYNTAX_ERROR", "OUT_OF_RANGE", "REPEATED", "TOO_DEEP"));
        Check.holds("constants " + seen, seen.equals(due));
    }

    private static void classes(Set<String> names) {
        Constructor<?>[] makers = OneBeat.class.getDeclaredConstructors();
        Check.same("constructors", makers.length, 1);
        Check.same("of no parameters", makers[0].getParameterCount(), 0);
        Check.holds("public", makers[0].getModifiers() == Modifier.PUBLIC);
        Check.holds("public and final", OneBeat.class.getModifiers() == (Modifier.PUBLIC | Modifier.FINAL));
        Class<?>[] inside = OneBeat.class.getDeclaredClasses();
        Check.holds("some twelve classes", inside.length <= 12);
        for (Class<?> c : inside) {
            Check.holds(c + " is private or package-visible", !Modifier.isPublic(c.getModifiers())
                && !Modifier.isProtected(c.getModifiers()));
            int fields = 0;
            for (Field f : c.getDeclaredFields()) {
                boolean isStatic = Modifier.isStatic(f.getModifiers());
                fields += isStatic ? 0 : 1;
                Check.holds(f + " is final if static", !isStatic || Modifier.isFinal(f.getModifiers()));
            }
            Check.holds(c + " has some twenty fields", fields <= 20);
            for (Method m : c.getDeclaredMethods()) {
                Check.holds(m + " has a name of its own", !names.contains(m.getName()));
                Check.holds(m + " has seven parameters at most", m.getParameterCount() <= 7);
            }
        }
    }

    private static void source() throws IOException {
        String text = Files.readString(Path.of("src/main/java/OneBeat.java"));
        String code = text.replaceAll("(?s)/\\*.*?\\*/", "").replaceAll("//[^\n]*", "")
            .replaceAll("\"[^\"\n]*\"", "\"\"").replaceAll("'[^'\n]'", "' '");
        code = code.replaceAll("\\b(case [^;{}]*?|default *)->", "");
        String[] barred = {"->", "::", "\\btry\\s*\\(", "\\bfinally\\b", "\\bsynchronized\\b", "\\bassert\\b",
            "static\\s*\\{", "\\bpackage\\b", "\\bprotected\\b", "Exact\\b", "\\bSystem\\.(?!arraycopy)",
            "\\bThread\\b", "\\bRandom\\b", "\\bString\\."};
        // What the machine throws is not caught, by its own name or by one above it that the code does not throw.
        String[] caught = {"catch\\s*\\([^)]*(Array|NullPointer|Arithmetic|ClassCast|NegativeArraySize|Throwable|Error)",
            "catch\\s*\\([^)]*\\b(Exception|RuntimeException|IndexOutOfBoundsException)\\b"};
        for (String s : caught) {
            Check.holds("no " + s, !Pattern.compile(s).matcher(code).find());
        }
        for (String s : barred) {
            Check.holds("no " + s, !Pattern.compile(s).matcher(code).find());
        }
        Matcher imports = Pattern.compile("import ([^;]*);").matcher(code);
        while (imports.find()) {
            Check.holds(imports.group(), imports.group(1).matches(
                "java\\.util\\.(Arrays|ArrayList|List|Iterator|NoSuchElementException)"));
        }
        Matcher thrown = Pattern.compile("throw ([^;]*);").matcher(code);
        while (thrown.find()) {
            Check.holds(thrown.group(), thrown.group(1).matches(
                "new (IllegalState|IllegalArgument|IndexOutOfBounds|NoSuchElement|UnsupportedOperation|Arithmetic|Runtime)"
                    + "Exception\\((\"\")?\\)"));
        }
        Check.holds("plain letters alone", text.chars().allMatch(c -> c == '\n' || c >= ' ' && c < 127));
    }

    public static void main(String[] args) throws IOException {
        Set<String> names = new TreeSet<>();
        methods(names);
        constants();
        classes(names);
        source();
        Check.end("FaceTest");
    }
}
