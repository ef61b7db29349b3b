import java.util.ArrayList;
import java.util.Collections;
import java.util.LinkedHashMap;
import java.util.List;
import java.util.Map;
import java.util.TreeSet;

/**
 * The document once more, written another way (recursive descent over Strings and collections), to
 * hold the program's answers against.
 */
final class Model {
    static final class Fault extends RuntimeException {
        private static final long serialVersionUID = 1L;
        final int number;
        final int place;

        Fault(int number, int place) {
            super(number + " at " + place, null, false, false);
            this.number = number;
            this.place = place;
        }
    }

    static final List<String> TASKS =
            List.of("fetch", "decode", "read", "execute", "memory", "write", "commit");
    private static final List<String> OTHER_WORDS = List.of("class", "stage", "does", "latency",
            "result", "path", "stall", "queue", "in", "port");

    final List<String> classes = new ArrayList<>();
    final List<String> stages = new ArrayList<>();
    final List<String> queues = new ArrayList<>();
    final List<String> ports = new ArrayList<>();
    final Map<String, Integer> latency = new LinkedHashMap<>();
    final Map<String, String> result = new LinkedHashMap<>();
    final Map<String, String> doer = new LinkedHashMap<>();
    final Map<String, Integer> queueSize = new LinkedHashMap<>();
    final Map<String, String> queueStage = new LinkedHashMap<>();
    final Map<String, TreeSet<Integer>> portClasses = new LinkedHashMap<>();
    final List<String> stall = new ArrayList<>();
    final List<String[]> paths = new ArrayList<>();
    int statements = 0;

    private final String text;
    private int at = 0;
    private int place = 0;
    private String lexeme = "";

    private Model(String text) {
        this.text = text;
    }

    static Model nothing() {
        return new Model("");
    }

    static Model read(String text) {
        Model model = new Model(text);
        model.take();
        while (!model.lexeme.isEmpty()) {
            model.statement();
            model.statements++;
            model.take();
        }
        return model;
    }

    private void take() {
        while (at < text.length() && "\t\n\r #".indexOf(text.charAt(at)) >= 0) {
            int line = text.indexOf('\n', at);
            at = text.charAt(at) != '#' ? at + 1 : line < 0 ? text.length() : line;
        }
        place = at;
        String rest = text.substring(at);
        if (rest.isEmpty()) {
            lexeme = "";
        } else if (rest.matches("(?s)[a-z].*")) {
            lexeme = rest.replaceFirst("(?s)[^a-z0-9].*", "");
        } else if (rest.matches("(?s)[0-9].*")) {
            lexeme = rest.replaceFirst("(?s)[^0-9].*", "");
        } else {
            lexeme = rest.substring(0, 1);
        }
        at += lexeme.length();
        boolean longName = lexeme.matches("[a-z].*") && lexeme.length() > 12;
        if (longName || lexeme.length() == 1 && !lexeme.matches("[a-z0-9:;,>=]")) {
            throw new Fault(1, place);
        }
    }

    private Fault fault(int number) {
        return new Fault(number, place);
    }

    private void statement() {
        switch (lexeme) {
            case "class":
                do {
                    take();
                    fresh(classes, 12);
                } while (comma());
                break;
            case "stage":
                stage();
                break;
            case "latency": {
                String cls = once(latency.keySet());
                sign("=");
                latency.put(cls, number(99));
                sign(";");
                break;
            }
            case "result": {
                String cls = once(result.keySet());
                sign(">");
                take();
                result.put(cls, known(stages));
                sign(";");
                break;
            }
            case "path":
                path();
                break;
            case "stall":
                do {
                    stall.add(once(stall));
                } while (comma());
                break;
            case "queue":
                queue();
                break;
            case "port":
                port();
                break;
            default:
                throw fault(2);
        }
    }

    private void stage() {
        take();
        String stage = fresh(stages, 12);
        take();
        if (lexeme.equals("does")) {
            do {
                take();
                if (!TASKS.contains(lexeme)) {
                    throw fault(2);
                }
                if (doer.containsKey(lexeme)) {
                    throw fault(7);
                }
                doer.put(lexeme, stage);
            } while (comma());
        } else if (!lexeme.equals(";")) {
            throw fault(2);
        }
    }

    private void path() {
        take();
        String from = known(stages);
        sign(">");
        take();
        if (isName() && paths.size() == 24) {
            throw fault(3);
        }
        String to = known(stages);
        if (pathIndex(from, to) >= 0) {
            throw fault(7);
        }
        paths.add(new String[] {from, to});
        sign(";");
    }

    private int pathIndex(String from, String to) {
        for (int i = 0; i < paths.size(); i++) {
            if (paths.get(i)[0].equals(from) && paths.get(i)[1].equals(to)) {
                return i;
            }
        }
        return -1;
    }

    private void queue() {
        take();
        String queue = fresh(queues, 8);
        sign("=");
        queueSize.put(queue, number(999));
        take();
        if (lexeme.equals("in")) {
            take();
            queueStage.put(queue, known(stages));
            sign(";");
        } else if (!lexeme.equals(";")) {
            throw fault(2);
        }
    }

    private void port() {
        take();
        TreeSet<Integer> has = new TreeSet<>();
        portClasses.put(fresh(ports, 8), has);
        sign(":");
        do {
            take();
            if (!has.add(classes.indexOf(known(classes)))) {
                throw fault(7);
            }
        } while (comma());
    }

    private boolean isName() {
        return lexeme.matches("[a-z].*") && !TASKS.contains(lexeme)
                && !OTHER_WORDS.contains(lexeme);
    }

    private boolean isThere() {
        return classes.contains(lexeme) || stages.contains(lexeme) || queues.contains(lexeme)
                || ports.contains(lexeme);
    }

    private String fresh(List<String> sort, int most) {
        if (!isName()) {
            throw fault(2);
        }
        if (sort.size() == most) {
            throw fault(3);
        }
        if (isThere()) {
            throw fault(4);
        }
        sort.add(lexeme);
        return lexeme;
    }

    private String known(List<String> sort) {
        if (!isName()) {
            throw fault(2);
        }
        if (!isThere()) {
            throw fault(5);
        }
        if (!sort.contains(lexeme)) {
            throw fault(6);
        }
        return lexeme;
    }

    private String once(java.util.Collection<String> told) {
        take();
        String cls = known(classes);
        if (told.contains(cls)) {
            throw fault(7);
        }
        return cls;
    }

    private int number(int most) {
        take();
        if (!lexeme.matches("[0-9]+")) {
            throw fault(2);
        }
        java.math.BigInteger value = new java.math.BigInteger(lexeme);
        if (value.signum() == 0 || value.compareTo(java.math.BigInteger.valueOf(most)) > 0) {
            throw fault(8);
        }
        return value.intValue();
    }

    private void sign(String wanted) {
        take();
        if (!lexeme.equals(wanted)) {
            throw fault(2);
        }
    }

    private boolean comma() {
        take();
        if (!lexeme.equals(",") && !lexeme.equals(";")) {
            throw fault(2);
        }
        return lexeme.equals(",");
    }

    int stageOf(String name) {
        return name == null ? -1 : stages.indexOf(name);
    }

    int portsWith(int cls) {
        int found = 0;
        for (TreeSet<Integer> has : portClasses.values()) {
            found += has.contains(cls) ? 1 : 0;
        }
        return found;
    }

    String errors() {
        List<String> all = new ArrayList<>();
        for (String task : List.of("fetch", "read", "execute", "commit")) {
            if (!doer.containsKey(task)) {
                all.add("1:" + TASKS.indexOf(task));
            }
        }
        List<List<String>> sorts = new ArrayList<>();
        for (int i = 0; i < 4; i++) {
            sorts.add(new ArrayList<>());
        }
        String executes = doer.get("execute");
        for (int c = 0; c < classes.size(); c++) {
            String at = result.get(classes.get(c));
            if (at == null) {
                sorts.get(0).add("2:" + c);
            }
            if (portsWith(c) == 0) {
                sorts.get(1).add("3:" + c);
            }
            if (at != null && executes != null) {
                if (stageOf(at) < stageOf(executes)) {
                    sorts.get(2).add("4:" + c);
                }
                if (doer.containsKey("read") && !stall.contains(classes.get(c))
                        && pathIndex(at, executes) < 0) {
                    sorts.get(3).add("5:" + c);
                }
            }
        }
        sorts.forEach(all::addAll);
        return String.join(" ", all);
    }

    String remarks() {
        List<String> all = new ArrayList<>();
        for (String queue : queues) {
            if (!queueStage.containsKey(queue)) {
                all.add("1:" + queues.indexOf(queue));
            }
        }
        for (String[] path : paths) {
            if (!result.containsValue(path[0])) {
                all.add("2:" + paths.indexOf(path));
            }
        }
        for (String stage : stages) {
            if (!doer.containsValue(stage) && !queueStage.containsValue(stage)) {
                all.add("3:" + stages.indexOf(stage));
            }
        }
        for (String[] path : paths) {
            if (stageOf(path[1]) > stageOf(path[0])) {
                all.add("4:" + paths.indexOf(path));
            }
        }
        return String.join(" ", all);
    }

    String printed() {
        StringBuilder all = new StringBuilder();
        if (!classes.isEmpty()) {
            all.append("class ").append(String.join(", ", classes)).append(";\n");
        }
        for (String stage : stages) {
            List<String> done = new ArrayList<>(TASKS);
            done.removeIf(task -> !stage.equals(doer.get(task)));
            all.append("stage ").append(stage).append(done.isEmpty() ? "" : " does ");
            all.append(String.join(", ", done)).append(";\n");
        }
        for (String cls : classes) {
            all.append("latency " + cls + " = " + latency.getOrDefault(cls, 1) + ";\n");
            all.append(result.containsKey(cls) ? "result " + cls + " > " + result.get(cls) + ";\n" : "");
            all.append(stall.contains(cls) ? "stall " + cls + ";\n" : "");
        }
        for (String[] path : paths) {
            all.append("path " + path[0] + " > " + path[1] + ";\n");
        }
        for (String queue : queues) {
            all.append("queue " + queue + " = " + queueSize.get(queue));
            all.append(queueStage.containsKey(queue) ? " in " + queueStage.get(queue) : "");
            all.append(";\n");
        }
        for (String port : ports) {
            List<String> has = new ArrayList<>();
            portClasses.getOrDefault(port, new TreeSet<>(Collections.emptySet()))
                    .forEach(c -> has.add(classes.get(c)));
            all.append("port " + port + " : " + String.join(", ", has) + ";\n");
        }
        return all.toString();
    }
}
