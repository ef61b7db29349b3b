/** Promises 11 (errors), 12 (error) and 13 (remark). */
final class CheckTest {
    private static final String STAGES = "stage f does fetch; stage r does read;"
            + "stage x does execute; stage m does memory; stage w does commit;";
    private static final int[] WRONG = {-1, Integer.MIN_VALUE, Integer.MAX_VALUE};

    public static void main(String[] args) {
        missingTasks();
        errorsOfClasses();
        missingPaths();
        errorsInOrder();
        wrongIndices();
        remarksOfEachSort();
        remarksInOrder();
        Expect.finish();
    }

    private static void errorsAre(String want, String text) {
        CoreText x = Expect.read(text);
        Expect.same("errors of " + text, Expect.errors(x), want);
        Expect.same("errors() of " + text, x.errors(), want.isEmpty() ? 0 : want.split(" ").length);
    }

    private static void remarksAre(String want, String text) {
        Expect.same("remarks of " + text, Expect.remarks(Expect.read(text)), want);
    }

    private static void missingTasks() {
        errorsAre("1:0 1:2 1:3 1:6", "");
        errorsAre("1:0 1:2 1:3 1:6", "stage a does decode, memory, write;");
        errorsAre("1:2 1:3 1:6", "stage a does fetch;");
        errorsAre("1:0 1:3 1:6", "stage a does read;");
        errorsAre("1:0 1:2 1:6", "stage a does execute;");
        errorsAre("1:0 1:2 1:3", "stage a does commit;");
        errorsAre("", STAGES);
    }

    private static void errorsOfClasses() {
        errorsAre("2:0 3:0", STAGES + "class a;");
        errorsAre("2:0", STAGES + "class a; port p : a;");
        errorsAre("2:1 3:0", STAGES + "class a, b; result a > x; stall a; port p : b;");
        errorsAre("", STAGES + "class a; result a > x; stall a; port p : a;");
        errorsAre("", STAGES + "class a; result a > w; stall a; port p : a;");
        errorsAre("4:0", STAGES + "class a; result a > r; stall a; port p : a;");
        errorsAre("4:0", STAGES + "class a; result a > f; stall a; port p : a;");
        errorsAre("1:3", "stage f does fetch, read, commit; stage g;"
                + "class a; result a > f; port p : a;");
    }

    private static void missingPaths() {
        String start = STAGES + "class a; port p : a; ";
        errorsAre("5:0", start + "result a > x;");
        errorsAre("", start + "result a > x; stall a;");
        errorsAre("", start + "result a > x; path x > x;");
        errorsAre("5:0", start + "result a > m; path x > x; path x > m; path m > r;");
        errorsAre("", start + "result a > m; path m > x;");
        errorsAre("4:0 5:0", start + "result a > r;");
        errorsAre("4:0", start + "result a > r; path r > x;");
        errorsAre("1:2", "stage f does fetch, commit, execute;"
                + "class a; port p : a; result a > f;");
        errorsAre("5:0", "stage f does fetch, commit, execute, read;"
                + "class a; port p : a; result a > f;");
    }

    private static void errorsInOrder() {
        errorsAre("1:0 1:6 2:0 2:3 3:1 3:3 4:2 5:1 5:2",
                "stage r does read; stage x does execute; class a, b, c, d;"
                + "port p : c, a; result c > r; result b > x;");
    }

    private static void wrongIndices() {
        CoreText x = Expect.read("stage f does fetch, read, execute;"
                + "queue q = 5 in f; queue r = 5;");
        Expect.same("errors()", x.errors(), 1);
        Expect.same("count(7)", x.count(7), 1);
        Expect.same("error(0, 0)", x.error(0, 0), 1);
        Expect.same("error(0, 1)", x.error(0, 1), 6);
        Expect.same("remark(0, 0)", x.remark(0, 0), 1);
        Expect.same("remark(0, 1)", x.remark(0, 1), 1);
        Expect.outside("error(1, 0)", () -> x.error(1, 0));
        Expect.outside("error(0, 2)", () -> x.error(0, 2));
        Expect.outside("remark(1, 0)", () -> x.remark(1, 0));
        Expect.outside("remark(0, 2)", () -> x.remark(0, 2));
        for (int i : WRONG) {
            Expect.outside("error(" + i + ", 0)", () -> x.error(i, 0));
            Expect.outside("error(0, " + i + ")", () -> x.error(0, i));
            Expect.outside("remark(" + i + ", 0)", () -> x.remark(i, 0));
            Expect.outside("remark(0, " + i + ")", () -> x.remark(0, i));
        }
        CoreText empty = new CoreText();
        Expect.outside("error(4, 0) of nothing", () -> empty.error(4, 0));
        Expect.outside("remark(0, 0) of nothing", () -> empty.remark(0, 0));
    }

    private static void remarksOfEachSort() {
        remarksAre("", "");
        remarksAre("", STAGES);
        remarksAre("1:0", "queue q = 5;");
        remarksAre("1:0 1:2", STAGES + "queue q = 5; queue y = 5 in f; queue z = 5;");
        remarksAre("2:0", STAGES + "path x > r;");
        remarksAre("", STAGES + "class a; result a > x; path x > r;");
        remarksAre("2:0", STAGES + "class a; result a > r; path x > r;");
        remarksAre("3:0", "stage a;");
        remarksAre("3:1", "stage a; stage b; stage c does write; queue q = 1 in a;");
        remarksAre("4:0", STAGES + "class a; result a > r; path r > x; path r > r; path r > f;");
    }

    private static void remarksInOrder() {
        remarksAre("1:0 1:1 2:0 2:2 3:5 3:6 4:1 4:2", STAGES + "stage y; stage z; class a;"
                + "result a > m; path x > r; path m > w; path f > r; queue q = 1; queue p = 2;");
    }
}
