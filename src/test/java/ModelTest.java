import java.util.ArrayList;
import java.util.HashSet;
import java.util.List;
import java.util.Random;
import java.util.Set;
import java.util.regex.MatchResult;
import java.util.regex.Pattern;

/** Many texts, made by chance from a fixed seed, whose answers are held against the model's. */
final class ModelTest {
    private static final int TEXTS = 20000;
    private static final String[] PIECES = {"class", "stage", "does", "latency", "result", "path",
        "stall", "queue", "in", "port", "fetch", "commit", ":", ";", ",", ">", "=", "0", "1", "99",
        "100", "999", "1000", "a", "abcdefghijkl", "abcdefghijklm", "$", "#", "\n", " ", "A"};

    private final Random random = new Random(7);
    private final List<String> classes = new ArrayList<>();
    private final List<String> stages = new ArrayList<>();
    private final List<String> tasks = new ArrayList<>();
    private int names;
    private final int[] faults = new int[9];
    private int larger = 0;

    public static void main(String[] args) {
        new ModelTest().run();
        Expect.finish();
    }

    private void run() {
        CoreText x = new CoreText();
        for (int n = 0; n < TEXTS; n++) {
            // An object answers for 512 calls alone, but its reads must not depend on earlier ones.
            if (n % 2 == 0) {
                x = new CoreText();
            }
            String text = text();
            compare(x, changed(text));
        }
        for (int number = 0; number <= 8; number++) {
            boolean enough = faults[number] >= TEXTS / 200;
            Expect.same("enough of fault " + number + ": " + faults[number], enough ? 1 : 0, 1);
        }
        Expect.same("enough texts are large", larger > TEXTS / 5 ? 1 : 0, 1);
    }

    private void compare(CoreText x, String text) {
        Expect.feed(x, text);
        Model model = Model.nothing();
        int number = 0;
        int place = 0;
        try {
            model = Model.read(text);
            Expect.same("read of " + text, x.read(), model.statements);
        } catch (Model.Fault fault) {
            number = fault.number;
            place = fault.place;
            Expect.thrown("read of " + text, IllegalArgumentException.class, x::read);
        }
        faults[number]++;
        larger += model.statements > 20 ? 1 : 0;
        Expect.same("fault of " + text, x.fault(0), number);
        Expect.same("place of " + text, x.fault(1), place);
        Expect.same("core of " + text, Expect.core(x), coreOf(model));
        Expect.same("errors of " + text, Expect.errors(x), model.errors());
        Expect.same("remarks of " + text, Expect.remarks(x), model.remarks());
        String printed = Expect.printed(x);
        Expect.same("printed of " + text, printed, model.printed());
        Expect.same("again of " + text, x.again(), printed.length());
        x.read();
        Expect.same("printed again of " + text, Expect.printed(x), printed);
    }

    private static String coreOf(Model x) {
        StringBuilder all = new StringBuilder();
        all.append(x.classes.size() + " " + x.stages.size() + " " + x.paths.size() + " ");
        all.append(x.queues.size() + " " + x.ports.size() + " " + x.statements + " ");
        for (int k = 0; k < x.classes.size(); k++) {
            String cls = x.classes.get(k);
            all.append("c " + x.latency.getOrDefault(cls, 1) + " " + x.stageOf(x.result.get(cls)));
            all.append(" " + (x.stall.contains(cls) ? 1 : 0) + " " + x.portsWith(k) + " ");
        }
        for (String task : Model.TASKS) {
            all.append("t " + x.stageOf(x.doer.get(task)) + " ");
        }
        for (String[] path : x.paths) {
            all.append("p " + x.stageOf(path[0]) + " " + x.stageOf(path[1]) + " ");
        }
        for (String queue : x.queues) {
            all.append("q " + x.queueSize.get(queue) + " " + x.stageOf(x.queueStage.get(queue)) + " ");
        }
        for (String port : x.ports) {
            for (int c = 0; c < x.classes.size(); c++) {
                all.append(x.portClasses.get(port).contains(c) ? '+' : '-');
            }
        }
        return all.toString();
    }

    /** Statements that fit for the most part; now and then one too many or told twice. */
    private String text() {
        classes.clear();
        stages.clear();
        tasks.clear();
        tasks.addAll(Model.TASKS);
        names = 0;
        StringBuilder all = new StringBuilder();
        int most = random.nextInt(12) == 0 ? 13 : 12;
        for (int i = random.nextInt(most + 1); i > 0; i--) {
            all.append("class").append(white()).append(told(classes)).append(";");
        }
        for (int i = random.nextInt(most + 1); i > 0; i--) {
            all.append("stage").append(white()).append(told(stages)).append(doing()).append(";");
        }
        traits(all);
        Set<String> paths = new HashSet<>();
        int howMany = random.nextInt(20) == 0 ? 40 : random.nextInt(12);
        for (int i = 0; i < howMany && !stages.isEmpty(); i++) {
            String from = any(stages);
            String to = any(stages);
            if (paths.add(from + " " + to) || random.nextInt(40) == 0) {
                all.append("path ").append(from).append(white()).append(">").append(to).append(";");
            }
        }
        queuesAndPorts(all);
        return all.length() <= 4096 ? all.toString() : all.substring(0, 4096);
    }

    private void traits(StringBuilder all) {
        for (String cls : classes) {
            if (random.nextBoolean()) {
                all.append("latency ").append(cls).append("=").append(1 + random.nextInt(99));
                all.append(";");
            }
            if (random.nextInt(4) > 0 && !stages.isEmpty()) {
                all.append("result ").append(cls).append(white()).append(">");
                all.append(any(stages)).append(";");
            }
            if (random.nextInt(4) == 0) {
                all.append("stall ").append(cls).append(white()).append(";");
            }
        }
    }

    private void queuesAndPorts(StringBuilder all) {
        List<String> others = new ArrayList<>();
        int most = random.nextInt(20) == 0 ? 10 : 9;
        for (int i = random.nextInt(most); i > 0; i--) {
            all.append("queue ").append(told(others)).append("=").append(1 + random.nextInt(999));
            all.append(random.nextBoolean() && !stages.isEmpty() ? " in " + any(stages) : "");
            all.append(";");
        }
        for (int i = random.nextInt(most); i > 0 && !classes.isEmpty(); i--) {
            all.append("port ").append(told(others)).append(":").append(any(classes));
            if (random.nextInt(3) == 0) {
                String second = any(classes);
                all.append(all.toString().endsWith(":" + second) ? "" : "," + second);
            }
            all.append(";");
        }
    }

    private String told(List<String> sort) {
        names++;
        String name = Integer.toString(names * 7919 % 1000003, 36).replaceFirst("^[0-9]+", "x");
        String all = (char) ('a' + names % 26) + name + (random.nextInt(3) == 0 ? "0123456" : "");
        sort.add(all);
        return all;
    }

    private String doing() {
        StringBuilder all = new StringBuilder();
        for (int i = random.nextInt(3); i > 0 && !tasks.isEmpty(); i--) {
            String task = tasks.remove(random.nextInt(tasks.size()));
            all.append(all.length() == 0 ? " does " : ",").append(task);
        }
        return all.toString();
    }

    private String any(List<String> sort) {
        return sort.get(random.nextInt(sort.size()));
    }

    private String white() {
        String[] all = {" ", "\t", "\r\n", "  ", " # told; $\n", "\n"};
        return all[random.nextInt(all.length)];
    }

    private String changed(String text) {
        switch (random.nextInt(5)) {
            case 0:
                return damaged(text);
            case 1:
                return exchanged(text);
            default:
                return text;
        }
    }

    /** The text with one of its words, names and numbers in the place of another. */
    private String exchanged(String text) {
        List<MatchResult> all = new ArrayList<>();
        Pattern.compile("[a-z0-9]+").matcher(text).results().forEach(all::add);
        if (all.isEmpty()) {
            return text;
        }
        MatchResult old = all.get(random.nextInt(all.size()));
        boolean number = Character.isDigit(old.group().charAt(0));
        String other = number ? PIECES[17 + random.nextInt(6)]
                : all.get(random.nextInt(all.size())).group();
        String now = text.substring(0, old.start()) + other + text.substring(old.end());
        return now.length() <= 4096 ? now : now.substring(0, 4096);
    }

    /** The text with one piece put in, put over others or taken out. */
    private String damaged(String text) {
        int from = random.nextInt(text.length() + 1);
        int to = Math.min(text.length(), from + random.nextInt(4));
        String piece = random.nextInt(4) == 0 ? "" : PIECES[random.nextInt(PIECES.length)];
        String all = text.substring(0, from) + piece + text.substring(to);
        return all.length() <= 4096 ? all : all.substring(0, 4096);
    }
}
