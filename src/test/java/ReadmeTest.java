import java.io.IOException;
import java.lang.reflect.InvocationTargetException;
import java.lang.reflect.Method;
import java.lang.reflect.Modifier;
import java.nio.file.Files;
import java.nio.file.Path;
import java.util.ArrayList;
import java.util.List;
import java.util.Set;
import java.util.TreeSet;
import java.util.regex.Matcher;
import java.util.regex.Pattern;
import java.util.stream.Stream;

/**
 * What README.md shows: its calls are taken from the file itself, made one by one, and the answer
 * that stands behind each is compared, so that the file cannot tell what does not hold.
 */
final class ReadmeTest {
    private static final Path README = Path.of("README.md");
    private static final Path TESTS = Path.of("src/test/java");
    private static final String NEW_OBJECT = "CoreText x = new CoreText();";
    // A call, and behind it the answer; what is behind a colon says what the answer means.
    private static final Pattern CALL =
            Pattern.compile("(x\\.)?(\\w+)\\((.*)\\); +// (throws \\w+|what follows|[^:]+)(: .*)?");

    private static final Set<String> shown = new TreeSet<>();
    private static int answers = 0;

    public static void main(String[] args) throws IOException, ReflectiveOperationException {
        List<String> lines = Files.readAllLines(README);
        examples(lines);
        helpers(lines);
        wholeFace();
        howToRunTests(String.join("\n", lines));
        Expect.finish();
    }

    private static void examples(List<String> lines) throws ReflectiveOperationException {
        List<List<String>> java = blocks(lines, "java");
        List<List<String>> texts = blocks(lines, "text");
        int examples = 0;
        for (List<String> block : java) {
            if (block.get(0).equals(NEW_OBJECT)) {
                example(block.subList(1, block.size()), texts);
                examples++;
            }
        }
        Expect.same("examples", examples, java.size() - 1);
        Expect.same("texts that were not printed", texts.size(), 0);
        Expect.same("answers that README.md tells", answers > 40 ? 1 : 0, 1);
    }

    private static void example(List<String> block, List<List<String>> texts)
            throws ReflectiveOperationException {
        CoreText x = new CoreText();
        for (String line : block) {
            Matcher call = CALL.matcher(line);
            if (!call.matches()) {
                Expect.same("a line of README.md", line, "a call with its answer");
                continue;
            }
            answers++;
            String want = call.group(4);
            if (want.equals("what follows") && !texts.isEmpty()) {
                want = String.join("\n", texts.remove(0)) + "\n";
            }
            boolean onObject = call.group(1) != null;
            String got = onObject ? answer(x, call.group(2), call.group(3))
                    : helper(x, call.group(2), call.group(3));
            Expect.same("README.md: " + line, got, want);
        }
    }

    private static String answer(CoreText x, String name, String list)
            throws ReflectiveOperationException {
        shown.add(name);
        String[] words = list.isEmpty() ? new String[0] : list.split(", ");
        Class<?>[] types = new Class<?>[words.length];
        Object[] numbers = new Object[words.length];
        for (int i = 0; i < words.length; i++) {
            types[i] = int.class;
            numbers[i] = Integer.decode(words[i]);
        }
        try {
            return CoreText.class.getMethod(name, types).invoke(x, numbers).toString();
        } catch (InvocationTargetException e) {
            return "throws " + e.getCause().getClass().getSimpleName();
        }
    }

    private static String helper(CoreText x, String name, String list) {
        if (name.equals("feedText") && list.startsWith("x, \"") && list.endsWith("\"")) {
            String text = list.substring(4, list.length() - 1).replace("\\n", "\n");
            return Integer.toString(feedText(x, text));
        }
        return name.equals("printedText") && list.equals("x") ? printedText(x) : "no such helper";
    }

    /** The helpers that README.md shows stand in this file, line for line. */
    private static void helpers(List<String> lines) throws IOException {
        List<String> here = Files.readAllLines(TESTS.resolve("ReadmeTest.java"));
        int first = here.indexOf("    // README.md shows what follows.");
        List<String> inner = here.subList(first + 1, here.size() - 1);
        String own = String.join("\n", inner).replaceAll("(?m)^ {4}", "");
        for (List<String> block : blocks(lines, "java")) {
            if (!block.get(0).equals(NEW_OBJECT)) {
                Expect.same("helpers of README.md", String.join("\n", block), own);
            }
        }
    }

    private static List<List<String>> blocks(List<String> lines, String language) {
        List<List<String>> all = new ArrayList<>();
        List<String> block = null;
        for (String line : lines) {
            if (line.equals("```" + language)) {
                block = new ArrayList<>();
                all.add(block);
            } else if (line.equals("```")) {
                block = null;
            } else if (block != null) {
                block.add(line);
            }
        }
        return all;
    }

    /** README.md shows a call of each method. */
    private static void wholeFace() {
        Set<String> face = new TreeSet<>();
        for (Method m : CoreText.class.getDeclaredMethods()) {
            if (Modifier.isPublic(m.getModifiers())) {
                face.add(m.getName());
            }
        }
        Expect.same("methods that README.md shows", shown.toString(), face.toString());
    }

    /** README.md names the script, and each test that the script runs. */
    private static void howToRunTests(String all) throws IOException {
        Expect.same(".ci/run in README.md", all.contains("```sh\n.ci/run\n```") ? 1 : 0, 1);
        Expect.same(".ci/run is there", Files.isExecutable(Path.of(".ci/run")) ? 1 : 0, 1);
        try (Stream<Path> files = Files.list(TESTS)) {
            for (Path file : (Iterable<Path>) files::iterator) {
                String name = file.getFileName().toString().replace(".java", "");
                if (name.endsWith("Test")) {
                    boolean named = all.contains("| `" + name + "` |");
                    Expect.same(name + " in README.md", named ? 1 : 0, 1);
                }
            }
        }
    }

    // README.md shows what follows.
    /** Feeds a text, and cuts what the last sixteen bytes have too many: how many bytes are there. */
    static int feedText(CoreText x, String text) {
        for (int i = 0; i < text.length(); i += 16) {
            x.feed(four(text, i), four(text, i + 4), four(text, i + 8), four(text, i + 12));
        }
        int last = text.length() % 16;
        return last == 0 ? x.count(0) : x.end(last);
    }

    /** Four characters as one number, the first one highest. */
    static int four(String text, int from) {
        int all = 0;
        for (int i = from; i < from + 4; i++) {
            all = all << 8 | (i < text.length() ? text.charAt(i) & 255 : 0);
        }
        return all;
    }

    /** Prints what was read, as a string. */
    static String printedText(CoreText x) {
        StringBuilder all = new StringBuilder();
        int size = x.print();
        for (int i = 0; i < size; i++) {
            all.append((char) x.out(i));
        }
        return all.toString();
    }
}
