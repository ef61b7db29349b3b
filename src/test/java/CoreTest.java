/** Promises 6 (ofClass), 7 (task), 8 (path), 9 (queue), 10 (port) and 17 (count). */
final class CoreTest {
    private static final int[] WRONG = {-1, Integer.MIN_VALUE, Integer.MAX_VALUE};

    public static void main(String[] args) {
        CoreText x = Expect.read("class a, b, c; stage f does decode, fetch; stage g does commit;"
                + "latency b = 99; result c > g; result b > f; stall c, a;"
                + "path g > f; path f > f; queue q = 999 in g; queue r = 1;"
                + "port p : c, b; port o : c;");
        classes(x);
        tasks(x);
        paths(x);
        queues(x);
        ports(x);
        counts(x);
        nothingRead(new CoreText());
        largest(Expect.read(Largest.text()));
        Expect.finish();
    }

    private static void classes(CoreText x) {
        int[][] want = {{1, -1, 1, 0}, {99, 0, 0, 1}, {1, 1, 1, 2}};
        for (int k = 0; k < 3; k++) {
            for (int what = 0; what < 4; what++) {
                Expect.same("ofClass(" + k + ", " + what + ")", x.ofClass(k, what), want[k][what]);
            }
        }
        Expect.outside("ofClass(3, 0)", () -> x.ofClass(3, 0));
        Expect.outside("ofClass(0, 4)", () -> x.ofClass(0, 4));
        for (int i : WRONG) {
            Expect.outside("ofClass(" + i + ", 0)", () -> x.ofClass(i, 0));
            Expect.outside("ofClass(0, " + i + ")", () -> x.ofClass(0, i));
        }
    }

    private static void tasks(CoreText x) {
        int[] want = {0, 0, -1, -1, -1, -1, 1};
        for (int t = 0; t < 7; t++) {
            Expect.same("task(" + t + ")", x.task(t), want[t]);
        }
        Expect.outside("task(7)", () -> x.task(7));
        for (int i : WRONG) {
            Expect.outside("task(" + i + ")", () -> x.task(i));
        }
        CoreText all = Expect.read("stage a does commit, fetch; stage b does memory; "
                + "stage c does write, decode; stage d does read; stage e does execute;");
        int[] doers = {0, 2, 3, 4, 1, 2, 0};
        for (int t = 0; t < 7; t++) {
            Expect.same("task(" + t + ") of all", all.task(t), doers[t]);
        }
    }

    private static void paths(CoreText x) {
        Expect.same("path(0, 0)", x.path(0, 0), 1);
        Expect.same("path(0, 1)", x.path(0, 1), 0);
        Expect.same("path(1, 0)", x.path(1, 0), 0);
        Expect.same("path(1, 1)", x.path(1, 1), 0);
        Expect.outside("path(2, 0)", () -> x.path(2, 0));
        Expect.outside("path(0, 2)", () -> x.path(0, 2));
        for (int i : WRONG) {
            Expect.outside("path(" + i + ", 0)", () -> x.path(i, 0));
            Expect.outside("path(0, " + i + ")", () -> x.path(0, i));
        }
    }

    private static void queues(CoreText x) {
        Expect.same("queue(0, 0)", x.queue(0, 0), 999);
        Expect.same("queue(0, 1)", x.queue(0, 1), 1);
        Expect.same("queue(1, 0)", x.queue(1, 0), 1);
        Expect.same("queue(1, 1)", x.queue(1, 1), CoreText.NONE);
        Expect.outside("queue(2, 0)", () -> x.queue(2, 0));
        Expect.outside("queue(0, 2)", () -> x.queue(0, 2));
        for (int i : WRONG) {
            Expect.outside("queue(" + i + ", 0)", () -> x.queue(i, 0));
            Expect.outside("queue(0, " + i + ")", () -> x.queue(0, i));
        }
    }

    private static void ports(CoreText x) {
        boolean[][] want = {{false, true, true}, {false, false, true}};
        for (int k = 0; k < 2; k++) {
            for (int c = 0; c < 3; c++) {
                Expect.same("port(" + k + ", " + c + ")", has(x, k, c), want[k][c] ? 1 : 0);
            }
        }
        Expect.outside("port(2, 0)", () -> has(x, 2, 0));
        Expect.outside("port(0, 3)", () -> has(x, 0, 3));
        for (int i : WRONG) {
            Expect.outside("port(" + i + ", 0)", () -> has(x, i, 0));
            Expect.outside("port(0, " + i + ")", () -> has(x, 0, i));
        }
    }

    private static int has(CoreText x, int k, int cls) {
        return x.port(k, cls) ? 1 : 0;
    }

    private static void counts(CoreText x) {
        Expect.same("counts", Expect.counts(x), "0 3 2 2 2 2 13 1 0");
        int bytes = x.print();
        Expect.same("count(8)", x.count(8), bytes);
        Expect.feed(x, "class");
        Expect.same("count(0)", x.count(0), 5);
        Expect.same("count(9)", x.count(9), CoreText.NONE);
        for (int i : WRONG) {
            Expect.same("count(" + i + ")", x.count(i), CoreText.NONE);
        }
    }

    private static void nothingRead(CoreText x) {
        Expect.outside("ofClass", () -> x.ofClass(0, 0));
        Expect.outside("path", () -> x.path(0, 0));
        Expect.outside("queue", () -> x.queue(0, 0));
        Expect.outside("port", () -> has(x, 0, 0));
        CoreText noPort = Expect.read("class a;");
        Expect.outside("port without ports", () -> has(noPort, 0, 0));
    }

    private static void largest(CoreText x) {
        Expect.same("counts of the largest", Expect.counts(x), "0 12 12 24 8 8 78 5 0");
        for (int k = 0; k < 12; k++) {
            Expect.same("latency", x.ofClass(k, 0), 99);
            Expect.same("result", x.ofClass(k, 1), k);
            Expect.same("stall", x.ofClass(k, 2), 1);
            Expect.same("ports", x.ofClass(k, 3), 8);
            Expect.same("port", has(x, k % 8, k), 1);
        }
        for (int k = 0; k < 24; k++) {
            Expect.same("path from", x.path(k, 0), k % 12);
            Expect.same("path to", x.path(k, 1), k / 12);
        }
        for (int k = 0; k < 8; k++) {
            Expect.same("queue size", x.queue(k, 0), 999);
            Expect.same("queue stage", x.queue(k, 1), k);
        }
        Expect.outside("ofClass(12, 0)", () -> x.ofClass(12, 0));
        Expect.outside("path(24, 0)", () -> x.path(24, 0));
        Expect.outside("queue(8, 0)", () -> x.queue(8, 0));
        Expect.outside("port(8, 0)", () -> has(x, 8, 0));
        Expect.outside("port(0, 12)", () -> has(x, 0, 12));
    }
}
