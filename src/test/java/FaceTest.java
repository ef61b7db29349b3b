import java.io.IOException;
import java.lang.reflect.Constructor;
import java.lang.reflect.Field;
import java.lang.reflect.Method;
import java.lang.reflect.Modifier;
import java.nio.file.Files;
import java.nio.file.Path;
import java.util.Set;
import java.util.TreeSet;
import java.util.regex.Matcher;
import java.util.regex.Pattern;

/** The face is the document's and no more, and the source keeps to the rules a reader can test. */
final class FaceTest {
    private static final String SOURCE = "src/main/java/CoreText.java";
    private static final String OUTSIDE = " throws IndexOutOfBoundsException";
    // The public face: each method with its exceptions, in the order in which they are told.
    private static final Set<String> FACE = Set.of(
            "int feed(int,int,int,int) throws IllegalStateException",
            "int end(int) throws IllegalArgumentException,IllegalStateException",
            "int read() throws IllegalArgumentException", "int fault(int)" + OUTSIDE,
            "int ofClass(int,int)" + OUTSIDE, "int task(int)" + OUTSIDE,
            "int path(int,int)" + OUTSIDE, "int queue(int,int)" + OUTSIDE,
            "boolean port(int,int)" + OUTSIDE, "int errors()", "int error(int,int)" + OUTSIDE,
            "int remark(int,int)" + OUTSIDE, "int print()", "int out(int)" + OUTSIDE,
            "int again()", "int count(int)");

    public static void main(String[] args) throws IOException {
        methods();
        members();
        nested();
        source();
        sizes();
        divisors();
        Expect.finish();
    }

    private static void methods() {
        Set<String> seen = new TreeSet<>();
        for (Method m : CoreText.class.getDeclaredMethods()) {
            if (!Modifier.isPrivate(m.getModifiers())) {
                String full = m.toGenericString().replace("java.lang.", "");
                String rest = full.substring(full.indexOf('('));
                seen.add(m.getReturnType() + " " + m.getName() + rest);
                Expect.same(m + " is public", m.getModifiers(), Modifier.PUBLIC);
            }
        }
        Expect.same("methods", String.join("\n", seen), String.join("\n", new TreeSet<>(FACE)));
    }

    private static void members() {
        int seen = 0;
        for (Field f : CoreText.class.getDeclaredFields()) {
            seen += Modifier.isPrivate(f.getModifiers()) ? 0 : 1;
            Expect.same(f + " is final", Modifier.isFinal(f.getModifiers()) ? 1 : 0, 1);
        }
        Expect.same("fields that are seen (NONE)", seen, 1);
        Constructor<?>[] all = CoreText.class.getDeclaredConstructors();
        Expect.same("constructors", all.length, 1);
        Expect.same("parameters", all[0].getParameterCount(), 0);
        int publicFinal = Modifier.PUBLIC | Modifier.FINAL;
        Expect.same("class", CoreText.class.getModifiers() & publicFinal, publicFinal);
    }

    private static void nested() {
        Set<String> names = new TreeSet<>();
        for (String one : FACE) {
            names.add(one.substring(one.indexOf(' ') + 1, one.indexOf('(')));
        }
        for (Class<?> c : CoreText.class.getDeclaredClasses()) {
            Expect.same(c + " is static", Modifier.isStatic(c.getModifiers()) ? 1 : 0, 1);
            Expect.same(c + " is public", Modifier.isPublic(c.getModifiers()) ? 1 : 0, 0);
            for (Method m : c.getDeclaredMethods()) {
                Expect.same(m + " bears a public name", names.contains(m.getName()) ? 1 : 0, 0);
            }
            for (Field f : c.getDeclaredFields()) {
                int both = Modifier.STATIC | Modifier.FINAL;
                boolean fine = (f.getModifiers() & both) != Modifier.STATIC;
                Expect.same(f + " is no static state", fine ? 1 : 0, 1);
            }
        }
    }

    private static void source() throws IOException {
        String all = Files.readString(Path.of(SOURCE));
        String[] never = {"import ", "package ", "catch", "try {", "->", "::", "finally", "assert ",
            "synchronized", "Exact", "while (true)", "for (;;)", "static {"};
        for (String piece : never) {
            Expect.same("'" + piece + "' in the source", all.contains(piece) ? 1 : 0, 0);
        }
    }

    // LANGUAGE.md, rule 11: parameters, lines of a method, classes, fields.
    private static void sizes() throws IOException {
        Class<?>[] classes = CoreText.class.getDeclaredClasses();
        atMost("classes", classes.length + 1, 12);
        sizesOf(CoreText.class);
        for (Class<?> c : classes) {
            sizesOf(c);
        }
        atMost("lines of the longest method", longestMethod(), 60);
    }

    private static int longestMethod() throws IOException {
        int longest = 0;
        int lines = 0;
        String end = "";
        for (String line : Files.readAllLines(Path.of(SOURCE))) {
            lines++;
            if (line.matches("( {4}| {8})(?!if |for |switch |while )[A-Za-z].*\\(.*\\{")) {
                lines = 1;
                end = line.substring(0, line.length() - line.stripLeading().length()) + "}";
            } else if (line.equals(end)) {
                longest = Math.max(longest, lines);
            }
        }
        Expect.same("methods are seen", longest > 0 ? 1 : 0, 1);
        return longest;
    }

    private static void sizesOf(Class<?> c) {
        int fields = 0;
        for (Field f : c.getDeclaredFields()) {
            fields += Modifier.isStatic(f.getModifiers()) ? 0 : 1;
        }
        atMost("fields of " + c, fields, 20);
        for (Method m : c.getDeclaredMethods()) {
            atMost("parameters of " + m, m.getParameterCount(), 7);
        }
    }

    private static void atMost(String what, int got, int most) {
        Expect.same(what + " (" + got + ", at most " + most + ")", got <= most ? 1 : 0, 1);
    }

    // LANGUAGE.md, rule 7: "a divisor before it divides": each is a constant, and not 0.
    private static void divisors() throws IOException {
        Pattern division = Pattern.compile("[^/*][/%]=? *([^/* ;)]+)");
        int seen = 0;
        for (String line : Files.readAllLines(Path.of(SOURCE))) {
            Matcher found = division.matcher(line.replaceAll("//.*", ""));
            while (found.find()) {
                boolean fine = found.group(1).matches("[1-9][0-9]*|([A-Z][a-z]+\\.)?[A-Z_]+");
                Expect.same("constant divisor: " + line.trim(), fine ? 1 : 0, 1);
                seen++;
            }
        }
        Expect.same("divisions are seen", seen > 0 ? 1 : 0, 1);
    }
}
