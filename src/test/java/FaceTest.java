import java.io.IOException;
import java.lang.reflect.Constructor;
import java.lang.reflect.Field;
import java.lang.reflect.Method;
import java.lang.reflect.Modifier;
import java.nio.file.Files;
import java.nio.file.Path;
import java.util.Set;
import java.util.TreeSet;

/** The face is the document's and no more, and the source keeps to the rules a reader can test. */
final class FaceTest {
    private static final String SOURCE = "src/main/java/CoreText.java";
    private static final String OUTSIDE = " throws IndexOutOfBoundsException";
    // The public face: each method with its exceptions, in the order in which they are told.
    private static final Set<String> FACE = Set.of(
            "int feed(int,int,int,int) throws IllegalStateException",
            "int end(int) throws IllegalArgumentException,IllegalStateException",
            "int read() throws IllegalArgumentException", "int fault(int)" + OUTSIDE,
            "int ofClass(int,int)" + OUTSIDE, "int task(int)" + OUTSIDE,
            "int path(int,int)" + OUTSIDE, "int queue(int,int)" + OUTSIDE,
            "boolean port(int,int)" + OUTSIDE, "int errors()", "int error(int,int)" + OUTSIDE,
            "int remark(int,int)" + OUTSIDE, "int print()", "int out(int)" + OUTSIDE,
            "int again()", "int count(int)");

    public static void main(String[] args) throws IOException {
        methods();
        members();
        nested();
        source();
        Expect.finish();
    }

    private static void methods() {
        Set<String> seen = new TreeSet<>();
        for (Method m : CoreText.class.getDeclaredMethods()) {
            if (!Modifier.isPrivate(m.getModifiers())) {
                String full = m.toGenericString().replace("java.lang.", "");
                String rest = full.substring(full.indexOf('('));
                seen.add(m.getReturnType() + " " + m.getName() + rest);
                Expect.same(m + " is public", m.getModifiers(), Modifier.PUBLIC);
            }
        }
        Expect.same("methods", String.join("\n", seen), String.join("\n", new TreeSet<>(FACE)));
    }

    private static void members() {
        int seen = 0;
        for (Field f : CoreText.class.getDeclaredFields()) {
            seen += Modifier.isPrivate(f.getModifiers()) ? 0 : 1;
            Expect.same(f + " is final", Modifier.isFinal(f.getModifiers()) ? 1 : 0, 1);
        }
        Expect.same("fields that are seen (NONE)", seen, 1);
        Constructor<?>[] all = CoreText.class.getDeclaredConstructors();
        Expect.same("constructors", all.length, 1);
        Expect.same("parameters", all[0].getParameterCount(), 0);
        int publicFinal = Modifier.PUBLIC | Modifier.FINAL;
        Expect.same("class", CoreText.class.getModifiers() & publicFinal, publicFinal);
    }

    private static void nested() {
        Set<String> names = new TreeSet<>();
        for (String one : FACE) {
            names.add(one.substring(one.indexOf(' ') + 1, one.indexOf('(')));
        }
        for (Class<?> c : CoreText.class.getDeclaredClasses()) {
            Expect.same(c + " is static", Modifier.isStatic(c.getModifiers()) ? 1 : 0, 1);
            Expect.same(c + " is public", Modifier.isPublic(c.getModifiers()) ? 1 : 0, 0);
            for (Method m : c.getDeclaredMethods()) {
                Expect.same(m + " bears a public name", names.contains(m.getName()) ? 1 : 0, 0);
            }
            for (Field f : c.getDeclaredFields()) {
                int both = Modifier.STATIC | Modifier.FINAL;
                boolean fine = (f.getModifiers() & both) != Modifier.STATIC;
                Expect.same(f + " is no static state", fine ? 1 : 0, 1);
            }
        }
    }

    private static void source() throws IOException {
        String all = Files.readString(Path.of(SOURCE));
        String[] never = {"import ", "package ", "catch", "try {", "->", "::", "finally", "assert ",
            "synchronized", "Exact", "while (true)", "for (;;)", "static {"};
        for (String piece : never) {
            Expect.same("'" + piece + "' in the source", all.contains(piece) ? 1 : 0, 0);
        }
    }
}
