/**
 * Boundary cases of the document's 'Terms', CHECKED and REMARKS, and of promises 11 (errors), 12
 * (error) and 13 (remark). Each test is of the sentence that stands above it.
 */
final class BoundaryCheckTest {
    private static final String[] WANTED = {"fetch", "read", "execute", "commit"};
    private static final int[] NUMBERS = {0, 2, 3, 6};
    private static final String STAGES = "stage f does fetch; stage r does read;"
            + "stage x does execute; stage m does memory; stage w does commit;";
    private static final int[] WRONG = {-1, -2, 256, 65536, 1 << 29, 1 << 30, -1 << 30,
        Integer.MIN_VALUE, Integer.MIN_VALUE + 1, Integer.MAX_VALUE};

    public static void main(String[] args) {
        eachTaskIsWanted();
        taskByAnyStage();
        classWithoutResult();
        classThatNoPortHas();
        resultBeforeExecute();
        resultBeforeExecuteIfOneDoes();
        pathIsNeeded();
        noPathIsNeededWithStall();
        noPathIsNeededWithoutReadOrExecute();
        noPathIsNeededWithoutResult();
        errorsAreInOrder();
        errorsOfTheFullest();
        queueInNoStage();
        pathOfNoUse();
        stageThatDoesNothing();
        pathThatLeadsForward();
        remarksAreInOrder();
        remarksOfTheFullest();
        errorsWithNothingRead();
        errorsFirstAndLast();
        errorThatIsNotThere();
        remarksFirstAndLast();
        remarkThatIsNotThere();
        Expect.finish();
    }

    private static void errorsAre(String want, String text) {
        CoreText x = Expect.read(text);
        Expect.same("errors of " + text, Expect.errors(x), want);
        Expect.same("errors() of " + text, x.errors(), want.isEmpty() ? 0 : want.split(" ").length);
    }

    private static void remarksAre(String want, String text) {
        CoreText x = Expect.read(text);
        Expect.same("remarks of " + text, Expect.remarks(x), want);
        Expect.same("count(7) of " + text, x.count(7), want.isEmpty() ? 0 : want.split(" ").length);
    }

    // Terms, error 1: "no stage does a TASK of fetch, read, execute, commit (each, in this order;
    // told by the task's number: fetch 0, decode 1, .. commit 6)": each set of the four.
    private static void eachTaskIsWanted() {
        for (int set = 0; set < 16; set++) {
            StringBuilder text = new StringBuilder("stage s does decode, memory, write");
            StringBuilder want = new StringBuilder();
            for (int i = 3; i >= 0; i--) {
                if ((set >> i & 1) != 0) {
                    text.append(", ").append(WANTED[i]);
                } else {
                    want.insert(0, "1:" + NUMBERS[i] + " ");
                }
            }
            errorsAre(want.toString().trim(), text + ";");
        }
    }

    // Terms, error 1: "no stage does a TASK": the last stage is one, and decode, memory, write are
    // not asked for.
    private static void taskByAnyStage() {
        errorsAre("1:2 1:3 1:6", "stage a; stage b; stage c does fetch;");
        errorsAre("1:0 1:2 1:3", "stage a; stage b does commit;");
        errorsAre("", "stage a does fetch, read, execute, commit;");
        errorsAre("1:0 1:2 1:3 1:6", "stage a does decode, memory, write;");
        errorsAre("1:0 1:2 1:3 1:6", "");
    }

    // Terms, error 2: "a class without a result (by classes, told by the class)"
    private static void classWithoutResult() {
        String start = STAGES + "class a, b, c; port p : a, b, c; stall a, b, c; ";
        errorsAre("2:0 2:1 2:2", start);
        errorsAre("2:1 2:2", start + "result a > x;");
        errorsAre("2:0 2:2", start + "result b > x;");
        errorsAre("2:0", start + "result c > x; result b > x;");
        errorsAre("", start + "result c > x; result b > x; result a > w;");
    }

    // Terms, error 3: "a class that no port has (likewise)"
    private static void classThatNoPortHas() {
        String start = STAGES + "class a, b, c; stall a, b, c;"
                + "result a > x; result b > x; result c > x; ";
        errorsAre("3:0 3:1 3:2", start);
        errorsAre("3:0 3:1", start + "port p : c;");
        errorsAre("3:1", start + "port p : c; port q : a, c;");
        errorsAre("", start + "port p : c; port q : c; port u : b, a;");
    }

    // Terms, error 4: "a class whose result is behind a stage that is before the one that
    // executes": before it, at it, behind it.
    private static void resultBeforeExecute() {
        String start = STAGES + "class a; port p : a; stall a; ";
        errorsAre("4:0", start + "result a > f;");
        errorsAre("4:0", start + "result a > r;");
        errorsAre("", start + "result a > x;");
        errorsAre("", start + "result a > m;");
        errorsAre("", start + "result a > w;");
    }

    // Terms, error 4: "if one does (likewise)"
    private static void resultBeforeExecuteIfOneDoes() {
        String start = "class a, b; port p : a, b; stall a, b; stage f does fetch, read, commit; ";
        errorsAre("1:3", start + "stage x; result a > f; result b > x;");
        errorsAre("4:0", start + "stage x does execute; result a > f; result b > x;");
        errorsAre("4:0 4:1", start + "stage x does execute; result b > f; result a > f;");
        errorsAre("2:0 4:1", start + "stage x does execute; result b > f;");
    }

    // Terms, error 5: "there is no path from its result's stage to that which executes."
    private static void pathIsNeeded() {
        String start = STAGES + "class a; port p : a; ";
        errorsAre("5:0", start + "result a > x;");
        errorsAre("", start + "result a > x; path x > x;");
        errorsAre("5:0", start + "result a > m;");
        errorsAre("", start + "result a > m; path m > x;");
        errorsAre("5:0", start + "result a > m; path x > m;");
        errorsAre("5:0", start + "result a > m; path m > r; path x > x; path w > x; path m > m;");
        errorsAre("4:0 5:0", start + "result a > f;");
        errorsAre("4:0", start + "result a > f; path f > x;");
        errorsAre("5:0", "stage s does fetch, read, execute, commit; class a; port p : a;"
                + "result a > s;");
    }

    // Terms, error 5: "it has no stall"
    private static void noPathIsNeededWithStall() {
        String start = STAGES + "class a, b; port p : a, b; result a > m; result b > m; ";
        errorsAre("5:0 5:1", start);
        errorsAre("5:1", start + "stall a;");
        errorsAre("5:0", start + "stall b;");
        errorsAre("", start + "stall a, b;");
    }

    // Terms, error 5: "read and execute are done"
    private static void noPathIsNeededWithoutReadOrExecute() {
        String start = "class a; port p : a; stage s does fetch, commit; ";
        errorsAre("5:0", start + "stage t does read, execute; stage u; result a > u;");
        errorsAre("1:2", start + "stage t does execute; stage u; result a > u;");
        errorsAre("1:3", start + "stage t does read; stage u; result a > u;");
        errorsAre("1:2 1:3", start + "stage t; stage u; result a > u;");
    }

    // Terms, error 5: "a class with a result that needs a PATH and has none (likewise)"
    private static void noPathIsNeededWithoutResult() {
        errorsAre("2:0", STAGES + "class a; port p : a;");
        errorsAre("2:0 5:1", STAGES + "class a, b; port p : a, b; result b > w;");
    }

    // Terms: "CHECKED: ERRORS, in this order"
    private static void errorsAreInOrder() {
        errorsAre("1:0 1:6 2:0 2:3 3:1 3:3 4:2 5:1 5:2",
                "stage r does read; stage x does execute; class a, b, c, d;"
                + "port p : c, a; result c > r; result b > x;");
    }

    // Terms: "CHECKED: ERRORS", with "Up to 12 classes": 28 or, with three of each class, 38.
    private static void errorsOfTheFullest() {
        errorsAre("1:0 1:2 1:3 1:6 " + list(2, 12) + " " + list(3, 12), Largest.classes(12));
        StringBuilder early = new StringBuilder("stage s; stage x does read, execute; class ");
        early.append(Expect.names("c", 12)).append(';');
        for (int i = 0; i < 12; i++) {
            early.append("result ").append(Expect.name("c", i)).append(" > s;");
        }
        errorsAre("1:0 1:6 " + list(3, 12) + " " + list(4, 12) + " " + list(5, 12),
                early.toString());
    }

    // Terms, remark 1: "a queue that is in no stage (told by the queue)"
    private static void queueInNoStage() {
        remarksAre("1:0", "queue q = 1;");
        remarksAre("", "stage s; queue q = 1 in s;");
        remarksAre("1:0 1:2", STAGES + "queue a = 1; queue b = 1 in f; queue c = 1;");
        remarksAre("1:1", STAGES + "queue a = 1 in w; queue b = 1; queue c = 1 in w;");
    }

    // Terms, remark 2: "a path that is of no use: no class has its result at its first stage (told
    // by the path)"
    private static void pathOfNoUse() {
        remarksAre("2:0", STAGES + "path x > r;");
        remarksAre("2:0", STAGES + "class a; path x > r;");
        remarksAre("2:0", STAGES + "class a; result a > r; path x > r;");
        remarksAre("", STAGES + "class a; result a > x; path x > r;");
        remarksAre("", STAGES + "class a, b; result b > x; path x > r;");
        remarksAre("2:1", STAGES + "class a, b; result b > x; path x > r; path w > x; path x > f;");
        remarksAre("2:0", STAGES + "path f > f;");
    }

    // Terms, remark 3: "a stage that does nothing and has no queue (told by the stage)"
    private static void stageThatDoesNothing() {
        remarksAre("3:0", "stage s;");
        remarksAre("", "stage s does commit;");
        remarksAre("", "stage s does fetch;");
        remarksAre("", "stage s; queue q = 1 in s;");
        remarksAre("", "stage s does decode; queue q = 1 in s;");
        remarksAre("3:0 3:2", "stage s; stage t does write; stage u; stage v; queue q = 1 in v;");
        remarksAre("1:0 3:0", "stage s; queue q = 1;");
        remarksAre("3:0", "stage s; class a; result a > s; path s > s;");
    }

    // Terms, remark 4: "a path that leads forward: to a later stage (told by the path)."
    private static void pathThatLeadsForward() {
        String start = STAGES + "class a; result a > r; ";
        remarksAre("4:0", start + "path r > x;");
        remarksAre("4:0", start + "path r > w;");
        remarksAre("", start + "path r > r;");
        remarksAre("", start + "path r > f;");
        remarksAre("4:1 4:3", start + "path r > r; path r > m; path r > f; path r > x;");
    }

    // Terms: "REMARKS, in this order"
    private static void remarksAreInOrder() {
        remarksAre("1:0 1:1 2:0 2:2 3:5 3:6 4:1 4:2", STAGES + "stage y; stage z; class a;"
                + "result a > m; path x > r; path m > w; path f > r; queue q = 1; queue p = 2;");
    }

    // Terms: "REMARKS", with "12 stages, 8 queues" and "24 paths.": 68 at most.
    private static void remarksOfTheFullest() {
        StringBuilder all = new StringBuilder();
        for (int i = 0; i < 12; i++) {
            all.append("stage ").append(Expect.name("s", i)).append(';');
        }
        for (int i = 0; i < 24; i++) {
            all.append("path ").append(Expect.name("s", i % 3)).append('>');
            all.append(Expect.name("s", 3 + i / 3)).append(';');
        }
        for (int i = 0; i < 8; i++) {
            all.append("queue ").append(Expect.name("q", i)).append("=1;");
        }
        remarksAre(list(1, 8) + " " + list(2, 24) + " " + list(3, 12) + " " + list(4, 24),
                all.toString());
    }

    private static String list(int number, int howMany) {
        StringBuilder all = new StringBuilder();
        for (int i = 0; i < howMany; i++) {
            all.append(i == 0 ? "" : " ").append(number).append(':').append(i);
        }
        return all.toString();
    }

    // Promise 11: "How many errors there are (with nothing read the four of 1)."
    private static void errorsWithNothingRead() {
        CoreText x = new CoreText();
        Expect.same("of a new object", Expect.errors(x), "1:0 1:2 1:3 1:6");
        Expect.same("how many", x.errors(), 4);
        Expect.feed(x, "stage s does fetch, read, execute, commit;");
        Expect.same("with a text that is not read", x.errors(), 4);
        x.read();
        Expect.same("none", x.errors(), 0);
        Expect.feed(x, "stage s does fetch; $");
        Expect.thrown("read", IllegalArgumentException.class, x::read);
        Expect.same("behind a fault", Expect.errors(x), "1:0 1:2 1:3 1:6");
        Expect.same("read of nothing", x.read(), 0);
        Expect.same("of an empty text", Expect.errors(x), "1:0 1:2 1:3 1:6");
    }

    // Promise 12: "Of the k-th error its number (what 0), what tells it (1)."
    private static void errorsFirstAndLast() {
        CoreText x = Expect.read("stage s does fetch; class a, b; port p : a; result a > s;");
        Expect.same("errors()", x.errors(), 5);
        Expect.same("number of the first", x.error(0, 0), 1);
        Expect.same("teller of the first", x.error(0, 1), 2);
        Expect.same("number of the last", x.error(4, 0), 3);
        Expect.same("teller of the last", x.error(4, 1), 1);
    }

    // Promise 12: "IndexOutOfBoundsException, when there is none, or no such what."
    private static void errorThatIsNotThere() {
        for (String task : WANTED) {
            CoreText x = Expect.read("stage s does " + task + ";");
            Expect.same("the last", x.error(2, 0), 1);
            Expect.refused("error(3, 0)", x, IndexOutOfBoundsException.class, () -> x.error(3, 0));
            Expect.refused("error(3, 1)", x, IndexOutOfBoundsException.class, () -> x.error(3, 1));
            Expect.refused("error(0, 2)", x, IndexOutOfBoundsException.class, () -> x.error(0, 2));
            Expect.outside("error(2, 2)", () -> x.error(2, 2));
            for (int i : WRONG) {
                Expect.outside("error(" + i + ", 0)", () -> x.error(i, 0));
                Expect.outside("error(" + i + ", 1)", () -> x.error(i, 1));
                Expect.outside("error(0, " + i + ")", () -> x.error(0, i));
            }
        }
        CoreText none = Expect.read("stage s does fetch, read, execute, commit;");
        Expect.outside("error(0, 0) of none", () -> none.error(0, 0));
        Expect.outside("error(0, 1) of none", () -> none.error(0, 1));
        CoreText fresh = new CoreText();
        Expect.same("error(3, 1) of a new object", fresh.error(3, 1), 6);
        Expect.outside("error(4, 0) of a new object", () -> fresh.error(4, 0));
    }

    // Promise 13: "Of the k-th remark its number (what 0), what tells it (1)."
    private static void remarksFirstAndLast() {
        CoreText x = Expect.read("stage s does fetch; stage t; class a; result a > s;"
                + "queue p = 1 in s; queue q = 1; path s > s; path s > t;");
        Expect.same("count(7)", x.count(7), 3);
        Expect.same("number of the first", x.remark(0, 0), 1);
        Expect.same("teller of the first", x.remark(0, 1), 1);
        Expect.same("number of the last", x.remark(2, 0), 4);
        Expect.same("teller of the last", x.remark(2, 1), 1);
    }

    // Promise 13: "IndexOutOfBoundsException, when there is none, or no such what."
    private static void remarkThatIsNotThere() {
        CoreText x = Expect.read("queue q = 1; queue r = 1; stage s;");
        Expect.same("the last, number", x.remark(2, 0), 3);
        Expect.same("the last, teller", x.remark(2, 1), 0);
        Expect.refused("remark(3, 0)", x, IndexOutOfBoundsException.class, () -> x.remark(3, 0));
        Expect.refused("remark(3, 1)", x, IndexOutOfBoundsException.class, () -> x.remark(3, 1));
        Expect.refused("remark(0, 2)", x, IndexOutOfBoundsException.class, () -> x.remark(0, 2));
        Expect.outside("remark(2, 2)", () -> x.remark(2, 2));
        for (int i : WRONG) {
            Expect.outside("remark(" + i + ", 0)", () -> x.remark(i, 0));
            Expect.outside("remark(" + i + ", 1)", () -> x.remark(i, 1));
            Expect.outside("remark(0, " + i + ")", () -> x.remark(0, i));
        }
        Expect.feed(x, "queue q = 1; $");
        Expect.thrown("read", IllegalArgumentException.class, x::read);
        Expect.outside("remark(0, 0) behind a fault", () -> x.remark(0, 0));
        CoreText fresh = new CoreText();
        Expect.outside("remark(0, 0) of a new object", () -> fresh.remark(0, 0));
        Expect.outside("remark(0, 1) of a new object", () -> fresh.remark(0, 1));
        CoreText none = Expect.read("stage s does fetch;");
        Expect.outside("remark(0, 0) of none", () -> none.remark(0, 0));
    }
}
