/** Promises 1 (a new object), 2 (feed), 3 (end), 16 (again) and the text's part of 4 (read). */
final class TextTest {
    private static final int BLANKS = 0x20202020;

    public static void main(String[] args) {
        newObject();
        feedTakesSixteen();
        feedIsFullAt4096();
        endCuts();
        endRefuses();
        readEmptiesTheText();
        againBringsThePrintedText();
        againMayHoldMoreThan4096();
        Expect.finish();
    }

    private static void newObject() {
        CoreText x = new CoreText();
        Expect.same("counts of a new object", Expect.counts(x), "0 0 0 0 0 0 0 0 0");
        Expect.same("errors of a new object", Expect.errors(x), "1:0 1:2 1:3 1:6");
        Expect.same("fault of a new object", x.fault(0), 0);
        Expect.same("place of a new object", x.fault(1), 0);
        for (int t = 0; t < 7; t++) {
            Expect.same("task of a new object", x.task(t), CoreText.NONE);
        }
        Expect.same("print of a new object", x.print(), 0);
        Expect.same("again of a new object", x.again(), 0);
        Expect.same("read of a new object", x.read(), 0);
        Expect.same("NONE", CoreText.NONE, -1);
        CoreText other = new CoreText();
        Expect.feed(other, "class a;");
        other.read();
        Expect.same("objects share nothing", x.count(1), 0);
    }

    private static void feedTakesSixteen() {
        CoreText x = new CoreText();
        Expect.same("feed", x.feed(0x71756575, 0x6520713d, 0x31323320, 0x3b202020), 16);
        Expect.same("count(0)", x.count(0), 16);
        Expect.same("second feed", x.feed(BLANKS, BLANKS, BLANKS, BLANKS), 32);
        Expect.same("read", x.read(), 1);
        Expect.same("order of the bytes", Expect.printed(x), "queue q = 123;\n");
        CoreText high = new CoreText();
        high.feed(BLANKS, BLANKS, 0x202020ff, -1);
        Expect.thrown("bytes above 127", IllegalArgumentException.class, high::read);
        Expect.same("fault of byte 255", high.fault(0), 1);
        Expect.same("place of byte 255", high.fault(1), 11);
    }

    private static void feedIsFullAt4096() {
        CoreText x = new CoreText();
        for (int i = 1; i <= 256; i++) {
            Expect.same("feed " + i, x.feed(BLANKS, BLANKS, BLANKS, BLANKS), 16 * i);
        }
        Expect.thrown("feed 257", IllegalStateException.class, () -> x.feed(0, 0, 0, 0));
        Expect.same("a feed that throws changes nothing", x.count(0), 4096);
        Expect.same("end(15)", x.end(15), 4095);
        Expect.thrown("feed at 4095", IllegalStateException.class, () -> x.feed(0, 0, 0, 0));
        Expect.same("end(2)", x.end(2), 4081);
        Expect.thrown("feed at 4081", IllegalStateException.class, () -> x.feed(0, 0, 0, 0));
        Expect.same("end(15)", x.end(15), 4080);
        Expect.same("feed at 4080", x.feed(BLANKS, BLANKS, BLANKS, BLANKS), 4096);
        Expect.same("read of 4096 blanks", x.read(), 0);
        Expect.same("fault of 4096 blanks", x.fault(0), 0);
    }

    private static void endCuts() {
        for (int n = 0; n <= 16; n++) {
            CoreText x = new CoreText();
            x.feed(BLANKS, BLANKS, BLANKS, BLANKS);
            x.feed(BLANKS, BLANKS, BLANKS, BLANKS);
            Expect.same("end(" + n + ")", x.end(n), 16 + n);
            Expect.same("count(0)", x.count(0), 16 + n);
        }
        CoreText x = new CoreText();
        Expect.feed(x, "class a;$$$$$$$$");
        Expect.same("the first bytes count", x.end(8), 8);
        Expect.same("read", x.read(), 1);
        Expect.feed(x, "class a; class b");
        Expect.feed(x, "; class c;$$$$$$");
        Expect.same("end", x.end(10), 26);
        Expect.same("end again, over two feeds", x.end(7), 17);
        Expect.same("read of two", x.read(), 2);
    }

    private static void endRefuses() {
        CoreText x = new CoreText();
        Expect.thrown("end(-1), empty", IllegalArgumentException.class, () -> x.end(-1));
        Expect.thrown("end(17), empty", IllegalArgumentException.class, () -> x.end(17));
        Expect.thrown("end(0), empty", IllegalStateException.class, () -> x.end(0));
        Expect.thrown("end(16), empty", IllegalStateException.class, () -> x.end(16));
        x.feed(BLANKS, BLANKS, BLANKS, BLANKS);
        Expect.thrown("end(17)", IllegalArgumentException.class, () -> x.end(17));
        Expect.thrown("end(min)", IllegalArgumentException.class, () -> x.end(Integer.MIN_VALUE));
        Expect.thrown("end(max)", IllegalArgumentException.class, () -> x.end(Integer.MAX_VALUE));
        Expect.same("end(16)", x.end(16), 16);
        Expect.same("end(15)", x.end(15), 15);
        Expect.thrown("end(15) of 15", IllegalStateException.class, () -> x.end(15));
        Expect.same("count(0)", x.count(0), 15);
    }

    private static void readEmptiesTheText() {
        CoreText x = new CoreText();
        Expect.feed(x, "class a;");
        x.read();
        Expect.same("text behind a read", x.count(0), 0);
        Expect.feed(x, "class $;");
        Expect.thrown("read", IllegalArgumentException.class, x::read);
        Expect.same("text behind a fault", x.count(0), 0);
        Expect.thrown("end behind a read", IllegalStateException.class, () -> x.end(3));
    }

    private static void againBringsThePrintedText() {
        CoreText x = Expect.read("class b,a;");
        x.print();
        Expect.feed(x, "what is there is gone");
        Expect.same("again", x.again(), 42);
        Expect.same("count(0)", x.count(0), 42);
        Expect.same("count(8)", x.count(8), 42);
        Expect.same("read", x.read(), 3);
        Expect.same("printed", Expect.printed(x),
                "class b, a;\nlatency b = 1;\nlatency a = 1;\n");
        Expect.same("read of nothing", x.read(), 0);
        Expect.same("what was printed stays", x.count(8), 42);
    }

    private static void againMayHoldMoreThan4096() {
        CoreText x = Expect.read(Largest.text());
        Expect.same("print of the largest", x.print(), 4147);
        Expect.same("again", x.again(), 4147);
        Expect.thrown("feed", IllegalStateException.class, () -> x.feed(0, 0, 0, 0));
        Expect.same("count(0)", x.count(0), 4147);
        Expect.same("read", x.read(), 1 + 12 + 36 + 24 + 8 + 8);
        Expect.same("print", x.print(), 4147);
        x.again();
        Expect.same("end(0)", x.end(0), 4131);
        Expect.thrown("read of a cut text", IllegalArgumentException.class, x::read);
        Expect.same("fault", x.fault(0), 2);
        Expect.same("place beyond 4096", x.fault(1), 4131);
    }
}
