/**
 * Boundary cases of promises 1 to 10 and 17 (new object, feed, end, read, fault, ofClass, task,
 * path, queue, port, count) and of which exception is thrown. Each test is of the sentence that
 * stands above it.
 */
final class BoundaryCallTest {
    private static final int WHITE = 0x20202020;
    private static final String CORE = "class a, b; stage f does fetch; stage x does execute;"
            + "latency b = 99; result b > f; stall b; path x > f; queue q = 5 in f; port p : b;";
    // Numbers that are in no range, and such as would be, were they cut or wrapped around.
    private static final int[] WRONG = {-1, -2, -16, 32, 64, 128, 256, 65536, 1 << 24, 1 << 29,
        1 << 30, -1 << 30, Integer.MIN_VALUE, Integer.MIN_VALUE + 1, Integer.MAX_VALUE};

    public static void main(String[] args) {
        noneIsMinusOne();
        newObject();
        newObjectsShareNothing();
        feedPutsTheHighestFirst();
        feedTakesBytesAbove127();
        feedComesBehindTheText();
        feedUpTo4096();
        feedRefusesMoreThan4096();
        endLeavesN();
        endLeavesTheFirstN();
        endRefusesN();
        endRefusesLessThanSixteen();
        endThrowsTheFirstOneTold();
        endAfterEnd();
        readOfAnEmptyText();
        readEmptiesTheText();
        readPutsTheFormerAway();
        readOfAFaultLeavesNothing();
        faultOfNoRead();
        faultOfTheLatestRead();
        faultRefusesAnotherWhat();
        ofClassAnswers();
        ofClassRefuses();
        taskAnswers();
        taskRefuses();
        pathAnswers();
        pathRefuses();
        queueAnswers();
        queueRefuses();
        portAnswers();
        portRefuses();
        countOfEach();
        countOfAnotherWhat();
        refusedCallsChangeNothing();
        Expect.finish();
    }

    private static CoreText full() {
        CoreText x = new CoreText();
        for (int n = 1; n <= 256; n++) {
            Expect.same("feed " + n, x.feed(WHITE, WHITE, WHITE, WHITE), 16 * n);
        }
        return x;
    }

    private static int has(CoreText x, int k, int cls) {
        return x.port(k, cls) ? 1 : 0;
    }

    // Terms: "`NONE = -1`: Nothing there."
    private static void noneIsMinusOne() {
        Expect.same("NONE", CoreText.NONE, -1);
    }

    // Promise 1: "An empty text, nothing read."
    private static void newObject() {
        CoreText x = new CoreText();
        Expect.same("state of a new object", Expect.state(x), "0 0 0 0 0 0 0 0 0; fault 0 at 0; "
                + "errors 1:0 1:2 1:3 1:6; remarks ; core 0 0 0 0 0 0 " + "t -1 ".repeat(7) + "; ");
        Expect.thrown("end(0)", IllegalStateException.class, () -> x.end(0));
        Expect.same("read", x.read(), 0);
    }

    // Promise 1: "An empty text, nothing read.": whatever other objects have.
    private static void newObjectsShareNothing() {
        String before = Expect.state(new CoreText());
        CoreText other = Expect.read(CORE);
        other.print();
        Expect.feed(other, "class");
        Expect.same("state of a new object", Expect.state(new CoreText()), before);
        Expect.same("text of the other", other.count(0), 5);
    }

    // Promise 2: "Sixteen bytes come behind the text, the highest of a first"
    private static void feedPutsTheHighestFirst() {
        for (int i = 0; i < 16; i++) {
            int[] four = {WHITE, WHITE, WHITE, WHITE};
            int shift = 24 - 8 * (i % 4);
            four[i / 4] = four[i / 4] & ~(255 << shift) | '$' << shift;
            CoreText x = new CoreText();
            Expect.same("feed", x.feed(four[0], four[1], four[2], four[3]), 16);
            Expect.thrown("read", IllegalArgumentException.class, x::read);
            Expect.same("place of byte " + i, x.fault(1), i);
        }
        CoreText x = new CoreText();
        x.feed(0x71756575, 0x6520713d, 0x31323320, 0x3b202020);
        x.read();
        Expect.same("queue q=123 ;", x.queue(0, 0), 123);
    }

    // Promise 2: "Sixteen bytes": each of 256, those above 127 and numbers below 0 too.
    private static void feedTakesBytesAbove127() {
        for (int c = 128; c < 256; c++) {
            CoreText x = new CoreText();
            x.feed(c << 24 | 0x202020, WHITE, WHITE, WHITE);
            Expect.thrown("read of " + c, IllegalArgumentException.class, x::read);
            Expect.same("fault of " + c, x.fault(0), 1);
            Expect.same("place of " + c, x.fault(1), 0);
        }
        CoreText x = new CoreText();
        Expect.same("feed(-1, -1, -1, -1)", x.feed(-1, -1, -1, -1), 16);
        Expect.same("feed(min ..)", x.feed(Integer.MIN_VALUE, 0, Integer.MAX_VALUE, 1), 32);
        CoreText high = new CoreText();
        high.feed(WHITE, WHITE, 0x202020ff, -1);
        Expect.thrown("read of 255", IllegalArgumentException.class, high::read);
        Expect.same("place of the first 255", high.fault(1), 11);
        CoreText comment = new CoreText();
        comment.feed('#' << 24 | 0xffffff, -1, Integer.MIN_VALUE, 0xa0a0a00a);
        Expect.same("all bytes in a comment", comment.read(), 0);
    }

    // Promise 2: "come behind the text": "how many it has."
    private static void feedComesBehindTheText() {
        CoreText x = new CoreText();
        Expect.feed(x, "class ab");
        Expect.same("count(0)", x.count(0), 8);
        Expect.same("feed", x.feed(0x63642c62, 0x3b202020, WHITE, WHITE), 24);
        Expect.same("read of class abcd,b;", x.read(), 1);
        Expect.same("classes", x.count(1), 2);
        Expect.same("feed behind a read", x.feed(WHITE, WHITE, WHITE, WHITE), 16);
    }

    // Promise 2: "IllegalStateException, when there would be more than 4096.": 4096 are no more.
    private static void feedUpTo4096() {
        CoreText x = full();
        Expect.same("count(0)", x.count(0), 4096);
        Expect.same("read", x.read(), 0);
        Expect.same("feed behind a read", x.feed(0, 0, 0, 0), 16);
        CoreText cut = full();
        Expect.same("end(0)", cut.end(0), 4080);
        Expect.same("feed at 4080", cut.feed(0, 0, 0, 0), 4096);
    }

    // Promise 2: "IllegalStateException, when there would be more than 4096."
    private static void feedRefusesMoreThan4096() {
        CoreText x = full();
        Expect.refused("feed at 4096", x, IllegalStateException.class, () -> x.feed(0, 0, 0, 0));
        Expect.same("the text is as it was", x.read(), 0);
        for (int n = 1; n <= 15; n++) {
            CoreText cut = full();
            cut.end(n);
            Expect.refusedFeed(cut, 4080 + n);
            Expect.same("the text is as it was", cut.read(), 0);
        }
    }

    // Promise 3: "Of the last sixteen bytes n (0 .. 16) count": "how many there are."
    private static void endLeavesN() {
        for (int n = 0; n <= 16; n++) {
            CoreText x = new CoreText();
            x.feed(WHITE, WHITE, WHITE, WHITE);
            Expect.same("end(" + n + ") of 16", x.end(n), n);
            Expect.same("count(0)", x.count(0), n);
            CoreText two = new CoreText();
            two.feed(WHITE, WHITE, WHITE, WHITE);
            two.feed(WHITE, WHITE, WHITE, WHITE);
            Expect.same("end(" + n + ") of 32", two.end(n), 16 + n);
            CoreText most = full();
            Expect.same("end(" + n + ") of 4096", most.end(n), 4080 + n);
        }
    }

    // Promise 3: "the others are gone": the ones behind, and for good.
    private static void endLeavesTheFirstN() {
        for (int n = 0; n <= 16; n++) {
            CoreText x = new CoreText();
            Expect.feed(x, "class a;        $$$$$$$$$$$$$$$$");
            x.end(n);
            if (n == 0) {
                Expect.same("read of none", x.read(), 1);
            } else {
                Expect.thrown("read of " + n, IllegalArgumentException.class, x::read);
                Expect.same("place", x.fault(1), 16);
            }
            CoreText y = new CoreText();
            Expect.feed(y, "class a;        " + ";".repeat(n) + "$".repeat(16 - n));
            y.end(n);
            y.feed(WHITE, WHITE, WHITE, WHITE);
            if (n == 0) {
                Expect.same("read of none and blanks", y.read(), 1);
            } else {
                Expect.thrown("read of " + n, IllegalArgumentException.class, y::read);
                Expect.same("fault: no $ is left", y.fault(0), 2);
            }
        }
        CoreText x = new CoreText();
        Expect.feed(x, "class abcdefghij");
        x.end(7);
        Expect.feed(x, "; stage s;      ");
        Expect.same("read of class a; stage s;", x.read(), 2);
        Expect.same("what was cut is gone", Expect.printed(x),
                "class a;\nstage s;\nlatency a = 1;\n");
    }

    // Promise 3: "IllegalArgumentException, when n is none of these"
    private static void endRefusesN() {
        CoreText x = new CoreText();
        x.feed(WHITE, WHITE, WHITE, WHITE);
        Expect.refused("end(-1)", x, IllegalArgumentException.class, () -> x.end(-1));
        Expect.refused("end(17)", x, IllegalArgumentException.class, () -> x.end(17));
        for (int n : WRONG) {
            Expect.thrown("end(" + n + ")", IllegalArgumentException.class, () -> x.end(n));
        }
        Expect.same("the text is as it was", x.end(16), 16);
    }

    // Promise 3: "IllegalStateException, when there are less than sixteen."
    private static void endRefusesLessThanSixteen() {
        CoreText empty = new CoreText();
        for (int n = 0; n <= 16; n++) {
            int i = n;
            Expect.thrown("end(" + n + ") of 0", IllegalStateException.class, () -> empty.end(i));
        }
        for (int size = 0; size < 16; size++) {
            CoreText x = new CoreText();
            x.feed(WHITE, WHITE, WHITE, WHITE);
            x.end(size);
            Expect.refused("end(0) of " + size, x, IllegalStateException.class, () -> x.end(0));
            Expect.refused("end(16) of " + size, x, IllegalStateException.class, () -> x.end(16));
        }
        CoreText x = Expect.read("stage s does write;");
        Expect.thrown("end behind a read", IllegalStateException.class, () -> x.end(16));
    }

    // Terms: "Of several exceptions the first one told is thrown."
    private static void endThrowsTheFirstOneTold() {
        CoreText x = new CoreText();
        Expect.refused("end(-1) of 0", x, IllegalArgumentException.class, () -> x.end(-1));
        Expect.refused("end(17) of 0", x, IllegalArgumentException.class, () -> x.end(17));
        x.feed(WHITE, WHITE, WHITE, WHITE);
        x.end(15);
        Expect.refused("end(17) of 15", x, IllegalArgumentException.class, () -> x.end(17));
        for (int n : WRONG) {
            Expect.thrown("end(" + n + ") of 15", IllegalArgumentException.class, () -> x.end(n));
        }
        Expect.thrown("end(16) of 15", IllegalStateException.class, () -> x.end(16));
    }

    // Promise 3: "Of the last sixteen bytes": of those that are the last now, whoever fed them.
    private static void endAfterEnd() {
        CoreText x = new CoreText();
        Expect.feed(x, "class a; class b");
        Expect.feed(x, "; class c;$$$$$$");
        Expect.same("end(10)", x.end(10), 26);
        Expect.same("end(16)", x.end(16), 26);
        Expect.same("end(7), over two feeds", x.end(7), 17);
        Expect.same("end(15)", x.end(15), 16);
        Expect.same("end(8)", x.end(8), 8);
        Expect.thrown("end(8) of 8", IllegalStateException.class, () -> x.end(8));
        Expect.same("read of class a;", x.read(), 1);
    }

    // Promise 4: "Reads the text, which is empty then: how many statements.": of an empty one none.
    private static void readOfAnEmptyText() {
        CoreText x = new CoreText();
        Expect.same("read of a new object", x.read(), 0);
        Expect.same("fault", x.fault(0), 0);
        Expect.same("read once more", x.read(), 0);
        CoreText cut = new CoreText();
        cut.feed(-1, -1, -1, -1);
        cut.end(0);
        Expect.same("read of what was cut to nothing", cut.read(), 0);
    }

    // Promise 4: "Reads the text, which is empty then": with a fault, too.
    private static void readEmptiesTheText() {
        CoreText x = new CoreText();
        Expect.feed(x, "class a;");
        Expect.same("read", x.read(), 1);
        Expect.same("count(0)", x.count(0), 0);
        Expect.feed(x, "class a; $");
        Expect.thrown("read of a fault", IllegalArgumentException.class, x::read);
        Expect.same("count(0) behind a fault", x.count(0), 0);
        Expect.same("feed behind a fault", x.feed(WHITE, WHITE, WHITE, WHITE), 16);
        Expect.same("read of blanks", x.read(), 0);
        CoreText most = full();
        most.read();
        Expect.same("count(0) behind 4096", most.count(0), 0);
    }

    // Promise 4: "What was read before is gone."
    private static void readPutsTheFormerAway() {
        String second = "class b, a; stage x; stage f; path f > x; queue q = 6; port p : a;";
        String[] texts = {"", "class a;", second, "stage f; queue b = 1;", "# nothing"};
        for (String text : texts) {
            CoreText x = Expect.read(CORE);
            Expect.feed(x, text);
            x.read();
            Expect.same("state behind a second read of " + text, Expect.state(x),
                    Expect.state(Expect.read(text)));
        }
        CoreText x = Expect.read(CORE);
        x.read();
        Expect.same("read of nothing", Expect.state(x), Expect.state(new CoreText()));
    }

    // Promise 4: "IllegalArgumentException, when it has a fault (nothing is read then)."
    private static void readOfAFaultLeavesNothing() {
        String nothing = withoutFault(new CoreText());
        String[] faulty = {"$", "in", "class a,b,c,d,e,f,g,h,i,j,k,l,m;", "class a, a;", "stall a;",
            "stage f; stall f;", "class a; stall a, a;", "queue q = 0;", CORE + "x", CORE + "$"};
        for (String text : faulty) {
            CoreText x = new CoreText();
            Expect.feed(x, text);
            Expect.thrown("read of " + text, IllegalArgumentException.class, x::read);
            Expect.same("nothing is read of " + text, withoutFault(x), nothing);
            CoreText second = Expect.read(CORE);
            Expect.feed(second, text);
            Expect.thrown("second read of " + text, IllegalArgumentException.class, second::read);
            Expect.same("nothing stays behind a read of " + text, withoutFault(second), nothing);
            Expect.feed(second, CORE);
            Expect.same("read behind the fault", second.read(), 9);
            Expect.same("state", Expect.state(second), Expect.state(Expect.read(CORE)));
        }
    }

    private static String withoutFault(CoreText x) {
        return Expect.state(x).replaceFirst("fault [0-9]+ at [0-9]+", "");
    }

    // Promise 5: "The fault of the latest read() (what 0; 0 none), its place (1).": before one.
    private static void faultOfNoRead() {
        CoreText x = new CoreText();
        Expect.same("fault(0)", x.fault(0), 0);
        Expect.same("fault(1)", x.fault(1), 0);
        Expect.feed(x, "$");
        Expect.same("fault(0) of what is not read yet", x.fault(0), 0);
    }

    // Promise 5: "The fault of the latest read() (what 0; 0 none), its place (1)."
    private static void faultOfTheLatestRead() {
        CoreText x = new CoreText();
        Expect.feed(x, "  $");
        Expect.thrown("read", IllegalArgumentException.class, x::read);
        Expect.same("fault(0)", x.fault(0), 1);
        Expect.same("fault(1)", x.fault(1), 2);
        Expect.feed(x, "class a;");
        x.print();
        Expect.same("fault(0) until the next read", x.fault(0), 1);
        Expect.same("fault(1) until the next read", x.fault(1), 2);
        Expect.feed(x, " queue q = 0;");
        Expect.thrown("read", IllegalArgumentException.class, x::read);
        Expect.same("fault(0) of the second", x.fault(0), 8);
        Expect.same("fault(1) of the second", x.fault(1), 19);
        Expect.same("read of nothing", x.read(), 0);
        Expect.same("fault(0) of none", x.fault(0), 0);
        Expect.same("fault(1) of none", x.fault(1), 0);
    }

    // Promise 5: "IndexOutOfBoundsException, for another what."
    private static void faultRefusesAnotherWhat() {
        CoreText x = new CoreText();
        Expect.outside("fault(2) of a new object", () -> x.fault(2));
        Expect.feed(x, "$");
        Expect.thrown("read", IllegalArgumentException.class, x::read);
        Expect.refused("fault(2)", x, IndexOutOfBoundsException.class, () -> x.fault(2));
        for (int what : WRONG) {
            Expect.outside("fault(" + what + ")", () -> x.fault(what));
        }
    }

    // Promise 6: "Of a class its latency (what 0), its result's stage (1; NONE), whether it stalls
    // (2), how many ports have it (3)."
    private static void ofClassAnswers() {
        CoreText x = Expect.read(CORE);
        int[][] want = {{1, CoreText.NONE, 0, 0}, {99, 0, 1, 1}};
        for (int k = 0; k < 2; k++) {
            for (int what = 0; what < 4; what++) {
                Expect.same("ofClass(" + k + ", " + what + ")", x.ofClass(k, what), want[k][what]);
            }
        }
        CoreText largest = Expect.read(Largest.text());
        Expect.same("ports of the last class", largest.ofClass(11, 3), 8);
        Expect.same("result of the last class", largest.ofClass(11, 1), 11);
    }

    // Promise 6: "IndexOutOfBoundsException, when there is no such class or what."
    private static void ofClassRefuses() {
        CoreText x = Expect.read(CORE);
        Expect.refused("ofClass(2, 0)", x, IndexOutOfBoundsException.class, () -> x.ofClass(2, 0));
        Expect.refused("ofClass(0, 4)", x, IndexOutOfBoundsException.class, () -> x.ofClass(0, 4));
        for (int what = 0; what < 4; what++) {
            int i = what;
            Expect.outside("ofClass(2, " + i + ")", () -> x.ofClass(2, i));
            Expect.outside("ofClass(-1, " + i + ")", () -> x.ofClass(-1, i));
        }
        for (int i : WRONG) {
            Expect.outside("ofClass(" + i + ", 0)", () -> x.ofClass(i, 0));
            Expect.outside("ofClass(" + i + ", 3)", () -> x.ofClass(i, 3));
            Expect.outside("ofClass(1, " + i + ")", () -> x.ofClass(1, i));
            Expect.outside("ofClass(i, i), " + i, () -> x.ofClass(i, i));
        }
        CoreText fresh = new CoreText();
        Expect.outside("ofClass(0, 0) of a new object", () -> fresh.ofClass(0, 0));
        CoreText largest = Expect.read(Largest.classes(12));
        Expect.same("ofClass(11, 0)", largest.ofClass(11, 0), 1);
        Expect.outside("ofClass(12, 0)", () -> largest.ofClass(12, 0));
    }

    // Promise 7: "The stage that does a task; NONE."
    private static void taskAnswers() {
        CoreText x = new CoreText();
        CoreText all = Expect.read(Largest.stages(12));
        for (int t = 0; t < 7; t++) {
            Expect.same("task(" + t + ") of a new object", x.task(t), CoreText.NONE);
            Expect.same("task(" + t + ") of all", all.task(t), t);
        }
        CoreText two = Expect.read(CORE);
        int[] want = {0, -1, -1, 1, -1, -1, -1};
        for (int t = 0; t < 7; t++) {
            Expect.same("task(" + t + ")", two.task(t), want[t]);
        }
    }

    // Promise 7: "IndexOutOfBoundsException, when there is no such task."
    private static void taskRefuses() {
        CoreText x = Expect.read(Largest.stages(12));
        Expect.refused("task(7)", x, IndexOutOfBoundsException.class, () -> x.task(7));
        for (int t : WRONG) {
            Expect.outside("task(" + t + ")", () -> x.task(t));
        }
        CoreText fresh = new CoreText();
        Expect.outside("task(7) of a new object", () -> fresh.task(7));
        Expect.outside("task(-1) of a new object", () -> fresh.task(-1));
    }

    // Promise 8: "Of a path its first stage (what 0), second one (1)."
    private static void pathAnswers() {
        CoreText x = Expect.read(Largest.stages(12) + Largest.paths(24));
        for (int k = 0; k < 24; k++) {
            Expect.same("path(" + k + ", 0)", x.path(k, 0), k % 12);
            Expect.same("path(" + k + ", 1)", x.path(k, 1), k / 12);
        }
        Expect.outside("path(24, 0)", () -> x.path(24, 0));
    }

    // Promise 8: "IndexOutOfBoundsException, when there is no such path or what."
    private static void pathRefuses() {
        CoreText x = Expect.read(CORE);
        Expect.same("path(0, 0)", x.path(0, 0), 1);
        Expect.refused("path(1, 0)", x, IndexOutOfBoundsException.class, () -> x.path(1, 0));
        Expect.refused("path(0, 2)", x, IndexOutOfBoundsException.class, () -> x.path(0, 2));
        Expect.outside("path(1, 1)", () -> x.path(1, 1));
        for (int i : WRONG) {
            Expect.outside("path(" + i + ", 0)", () -> x.path(i, 0));
            Expect.outside("path(" + i + ", 1)", () -> x.path(i, 1));
            Expect.outside("path(0, " + i + ")", () -> x.path(0, i));
        }
        CoreText fresh = new CoreText();
        Expect.outside("path(0, 0) of a new object", () -> fresh.path(0, 0));
    }

    // Promise 9: "Of a queue its size (what 0), its stage (1; NONE)."
    private static void queueAnswers() {
        CoreText x = Expect.read("stage s; stage t;"
                + "queue a = 1; queue b = 999 in s; queue c = 9 in t;");
        int[][] want = {{1, CoreText.NONE}, {999, 0}, {9, 1}};
        for (int k = 0; k < 3; k++) {
            Expect.same("queue(" + k + ", 0)", x.queue(k, 0), want[k][0]);
            Expect.same("queue(" + k + ", 1)", x.queue(k, 1), want[k][1]);
        }
    }

    // Promise 9: "IndexOutOfBoundsException, when there is no such queue or what."
    private static void queueRefuses() {
        CoreText x = Expect.read(CORE);
        Expect.refused("queue(1, 0)", x, IndexOutOfBoundsException.class, () -> x.queue(1, 0));
        Expect.refused("queue(0, 2)", x, IndexOutOfBoundsException.class, () -> x.queue(0, 2));
        Expect.outside("queue(1, 1)", () -> x.queue(1, 1));
        for (int i : WRONG) {
            Expect.outside("queue(" + i + ", 0)", () -> x.queue(i, 0));
            Expect.outside("queue(" + i + ", 1)", () -> x.queue(i, 1));
            Expect.outside("queue(0, " + i + ")", () -> x.queue(0, i));
        }
        CoreText fresh = new CoreText();
        Expect.outside("queue(0, 0) of a new object", () -> fresh.queue(0, 0));
        CoreText most = Expect.read(Largest.stages(8) + Largest.queues(8));
        Expect.same("queue(7, 1)", most.queue(7, 1), 7);
        Expect.outside("queue(8, 0)", () -> most.queue(8, 0));
        Expect.outside("queue(8, 1)", () -> most.queue(8, 1));
    }

    // Promise 10: "Whether a port has a class."
    private static void portAnswers() {
        StringBuilder all = new StringBuilder("class " + Expect.names("c", 12) + ";");
        for (int k = 0; k < 8; k++) {
            all.append("port p" + k + " : " + Expect.name("c", k));
            all.append(", " + Expect.name("c", 11 - k) + ";");
        }
        CoreText x = Expect.read(all.toString());
        for (int k = 0; k < 8; k++) {
            for (int c = 0; c < 12; c++) {
                boolean want = c == k || c == 11 - k;
                Expect.same("port(" + k + ", " + c + ")", has(x, k, c), want ? 1 : 0);
            }
        }
    }

    // Promise 10: "IndexOutOfBoundsException, when there is no such port or class."
    private static void portRefuses() {
        CoreText x = Expect.read(CORE);
        Expect.refused("port(1, 0)", x, IndexOutOfBoundsException.class, () -> has(x, 1, 0));
        Expect.refused("port(0, 2)", x, IndexOutOfBoundsException.class, () -> has(x, 0, 2));
        for (int i : WRONG) {
            Expect.outside("port(" + i + ", 1)", () -> has(x, i, 1));
            Expect.outside("port(0, " + i + ")", () -> has(x, 0, i));
            Expect.outside("port(0, 1 + " + i + ")", () -> has(x, 0, i + (i < 0 ? -1 : 1)));
        }
        CoreText fresh = new CoreText();
        Expect.outside("port(0, 0) of a new object", () -> has(fresh, 0, 0));
        CoreText noPort = Expect.read("class a;");
        Expect.outside("port(0, 0) without a port", () -> has(noPort, 0, 0));
        CoreText most = Expect.read(Largest.classes(12) + Largest.ports(8));
        Expect.same("port(7, 11)", has(most, 7, 11), 1);
        Expect.outside("port(8, 11)", () -> has(most, 8, 11));
        Expect.outside("port(7, 12)", () -> has(most, 7, 12));
    }

    // Promise 17: "Bytes of the text (0), classes (1), stages (2), paths (3), queues (4), ports
    // (5), statements (6), remarks (7), bytes printed last (8)."
    private static void countOfEach() {
        CoreText x = new CoreText();
        Expect.same("of a new object", Expect.counts(x), "0 0 0 0 0 0 0 0 0");
        Expect.feed(x, Largest.text());
        int size = Largest.text().length();
        Expect.same("of a text", Expect.counts(x), size + " 0 0 0 0 0 0 0 0");
        x.read();
        Expect.same("of the largest", Expect.counts(x), "0 12 12 24 8 8 78 5 0");
        x.print();
        Expect.same("printed", Expect.counts(x), "0 12 12 24 8 8 78 5 4147");
        x.again();
        Expect.same("printed and text", Expect.counts(x), "4147 12 12 24 8 8 78 5 4147");
        x.read();
        Expect.same("read again", Expect.counts(x), "0 12 12 24 8 8 89 5 4147");
        x.read();
        Expect.same("nothing read", Expect.counts(x), "0 0 0 0 0 0 0 0 4147");
    }

    // Promise 17: "NONE for another what."
    private static void countOfAnotherWhat() {
        CoreText fresh = new CoreText();
        CoreText x = Expect.read(CORE);
        Expect.same("count(9) of a new object", fresh.count(9), CoreText.NONE);
        Expect.same("count(9)", x.count(9), CoreText.NONE);
        for (int what : WRONG) {
            Expect.same("count(" + what + ")", x.count(what), CoreText.NONE);
        }
    }

    // The public face, all that "throws": a refused call changes nothing (read(): promise 4).
    private static void refusedCallsChangeNothing() {
        CoreText x = Expect.read(CORE);
        Expect.feed(x, "class $");
        String before = Expect.state(x);
        for (int i : new int[] {-1, 99}) {
            Expect.thrown("end", IllegalArgumentException.class, () -> x.end(i));
            Expect.thrown("end", IllegalStateException.class, () -> x.end(0));
            Expect.outside("fault", () -> x.fault(i));
            Expect.outside("ofClass", () -> x.ofClass(i, 0));
            Expect.outside("task", () -> x.task(i));
            Expect.outside("path", () -> x.path(i, 0));
            Expect.outside("queue", () -> x.queue(i, 0));
            Expect.outside("port", () -> has(x, i, 0));
            Expect.outside("error", () -> x.error(i, 0));
            Expect.outside("remark", () -> x.remark(i, 0));
            Expect.outside("out", () -> x.out(i));
        }
        Expect.same("state behind refused calls", Expect.state(x), before);
        Expect.thrown("read", IllegalArgumentException.class, x::read);
        Expect.same("the text was as it was", x.fault(1), 6);
    }
}
