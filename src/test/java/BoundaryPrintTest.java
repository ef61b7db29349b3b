/**
 * Boundary cases of the document's 'Terms', PRINTED, and of promises 14 (print), 15 (out) and 16
 * (again). Each test is of the sentence that stands above it.
 */
final class BoundaryPrintTest {
    private static final int[] WRONG = {-1, -2, 65536, 1 << 29, 1 << 30, -1 << 30,
        Integer.MIN_VALUE, Integer.MIN_VALUE + 1, Integer.MAX_VALUE};

    public static void main(String[] args) {
        linesEndWith10();
        classesIfThereAre();
        stagesWithAndWithoutTasks();
        tasksByNumbers();
        latencyAlways();
        latencyIsOneIfNoneWasTold();
        resultIfTold();
        stallIfSo();
        classByClass();
        pathsAsTold();
        queuesWithAndWithoutStage();
        portsWithClassesByNumbers();
        orderOfTheSorts();
        longestNamesAndNumbers();
        printOfNothingRead();
        printOfTheLargest();
        outOfWhatWasPrintedLast();
        outOfBytesThatAreNone();
        againOfNothingPrinted();
        againPutsWhatIsThereAway();
        againOf4096();
        againOfMoreThan4096();
        againKeepsWhatWasPrinted();
        Expect.finish();
    }

    private static void prints(String want, String text) {
        CoreText x = Expect.read(text);
        Expect.same("print of " + text, x.print(), want.length());
        Expect.same("printed of " + text, Expect.lastPrinted(x), want);
        Expect.same("count(8) of " + text, x.count(8), want.length());
    }

    // Terms: "PRINTED: lines, each with 10 behind it": the last one too, and no other white.
    private static void linesEndWith10() {
        prints("stage s;\n", "stage s;");
        prints("stage s;\nstage t;\n", "stage s;stage t;");
        prints("stage s;\nstage t;\n", "\t stage\r s # t\n;\n\n\nstage t ; # end");
    }

    // Terms: '"class add, mul;" (if there are classes)'
    private static void classesIfThereAre() {
        prints("", "");
        prints("queue q = 1;\n", "queue q = 1;");
        prints("class a;\nlatency a = 1;\n", "class a;");
        prints("class b, a;\nlatency b = 1;\nlatency a = 1;\n", "class b; class a;");
        CoreText x = Expect.read(Largest.classes(12));
        x.print();
        String line = Largest.classes(12).replace(",", ", ") + "\n";
        for (int i = 0; i < line.length(); i++) {
            Expect.same("byte " + i + " of twelve classes", x.out(i), line.charAt(i));
        }
    }

    // Terms: 'then stages "stage f does fetch;" ("stage x;"'
    private static void stagesWithAndWithoutTasks() {
        prints("stage x;\n", "stage x;");
        prints("stage f does fetch;\n", "stage f does fetch;");
        prints("stage f does fetch, commit;\nstage x;\nstage d does decode;\n",
                "stage f does fetch, commit; stage x; stage d does decode;");
    }

    // Terms: "tasks in their order by numbers)"
    private static void tasksByNumbers() {
        prints("stage s does fetch, decode, read, execute, memory, write, commit;\n",
                "stage s does commit, write, memory, execute, read, decode, fetch;");
        prints("stage s does decode, write;\nstage t does fetch, commit;\n",
                "stage s does write, decode; stage t does commit, fetch;");
    }

    // Terms: 'then class by class "latency add = 1;" (always)'
    private static void latencyAlways() {
        prints("class a, b, c, d;\n"
                + "latency a = 1;\nlatency b = 9;\nlatency c = 10;\nlatency d = 99;\n",
                "class a, b, c, d; latency d = 99; latency c = 10; latency b = 9;");
    }

    // Terms: "A class's latency is 1, if none was told."
    private static void latencyIsOneIfNoneWasTold() {
        CoreText x = Expect.read("class a, b, c; latency b = 99; latency c = 1;");
        Expect.same("none told", x.ofClass(0, 0), 1);
        Expect.same("told", x.ofClass(1, 0), 99);
        Expect.same("one told", x.ofClass(2, 0), 1);
        x.print();
        x.again();
        Expect.same("read again", x.read(), 4);
        Expect.same("none told at first", x.ofClass(0, 0), 1);
    }

    // Terms: '"result add > x;" (if told)': the first stage is one, too.
    private static void resultIfTold() {
        prints("class a, b;\nstage s;\nlatency a = 1;\nlatency b = 1;\nresult b > s;\n",
                "class a, b; stage s; result b > s;");
        prints("class a;\nstage s;\nstage t;\nlatency a = 1;\nresult a > t;\n",
                "class a; stage s; stage t; result a > t;");
    }

    // Terms: '"stall add;" (if so)'
    private static void stallIfSo() {
        prints("class a, b;\nlatency a = 1;\nlatency b = 1;\nstall b;\n", "class a, b; stall b;");
        prints("class a, b;\nlatency a = 1;\nstall a;\nlatency b = 1;\nstall b;\n",
                "class a, b; stall b, a;");
    }

    // Terms: "then class by class"
    private static void classByClass() {
        prints("class b, a;\nstage s;\nlatency b = 1;\nresult b > s;\nstall b;\nlatency a = 2;\n"
                + "result a > s;\nstall a;\n",
                "class b, a; stage s; stall a, b; result a > s; latency a = 2; result b > s;");
    }

    // Terms: 'then paths "path x > r;"' "each in the order in which they were told."
    private static void pathsAsTold() {
        prints("stage r;\nstage x;\npath x > r;\npath r > x;\npath x > x;\npath r > r;\n",
                "stage r; stage x; path x > r; path r > x; path x > x; path r > r;");
    }

    // Terms: 'queues "queue q = 4 in x;" ("queue q = 4;")'
    private static void queuesWithAndWithoutStage() {
        prints("queue q = 1;\nqueue p = 999;\n", "queue q = 1; queue p = 999;");
        prints("stage s;\nqueue q = 10 in s;\nqueue p = 100;\n",
                "stage s; queue q = 10 in s; queue p = 100;");
    }

    // Terms: 'ports "port p : add, mul;" (classes by their numbers)'
    private static void portsWithClassesByNumbers() {
        String classes = "class d, c, b;\nlatency d = 1;\nlatency c = 1;\nlatency b = 1;\n";
        prints(classes + "port p : b;\n", "class d, c, b; port p : b;");
        prints(classes + "port q : d, c, b;\nport p : d, b;\n",
                "class d, c, b; port q : b, c, d; port p : b, d;");
    }

    // Terms: "each in the order in which they were told.": sorts do not mix.
    private static void orderOfTheSorts() {
        prints("class a;\nstage s;\nlatency a = 1;\nresult a > s;\nstall a;\npath s > s;\n"
                + "queue q = 1;\nport p : a;\n",
                "queue q = 1; class a; port p : a; stall a; stage s; path s > s; result a > s;");
    }

    // Terms: "up to 12", "1 .. 99 (latency), 1 .. 999 (queue).": as long as they were told.
    private static void longestNamesAndNumbers() {
        for (String name : new String[] {"a", "z", "a0", "z9", "aaaaaaaaaaaa", "zzzzzzzzzzzz",
            "a00000000000", "z99999999999", "abcdefghijkl", "mnopqrstuvwx", "yz0123456789"}) {
            prints("stage " + name + ";\n", "stage " + name + ";");
        }
        for (int n = 1; n <= 999; n++) {
            prints("queue q = " + n + ";\n", "queue q = 00" + n + ";");
        }
    }

    // Promise 14: "Prints what was read: how many bytes.": of nothing none.
    private static void printOfNothingRead() {
        CoreText x = new CoreText();
        Expect.same("print of a new object", x.print(), 0);
        Expect.feed(x, "stage s;");
        Expect.same("print of what is not read yet", x.print(), 0);
        x.read();
        Expect.same("print", x.print(), 9);
        Expect.same("print once more", x.print(), 9);
        Expect.feed(x, "stage t; $");
        Expect.thrown("read", IllegalArgumentException.class, x::read);
        Expect.same("print behind a fault", x.print(), 0);
    }

    // Promise 14: "how many bytes": the largest core has 4147, and each of them is there.
    private static void printOfTheLargest() {
        String want = Model.read(Largest.text()).printed();
        // An object answers 512 calls, so each byte is asked of one that can still answer.
        for (int from = 0; from < want.length(); from += 200) {
            CoreText x = Expect.read(Largest.text());
            Expect.same("print of the largest", x.print(), 4147);
            for (int i = from; i < Math.min(from + 200, want.length()); i++) {
                Expect.same("byte " + i + " of the largest", x.out(i), want.charAt(i));
            }
        }
        CoreText x = Expect.read(Largest.text());
        x.print();
        Expect.same("the last byte", x.out(4146), 10);
        Expect.outside("the byte behind", () -> x.out(4147));
    }

    // Promise 15: "Byte i of what was printed last."
    private static void outOfWhatWasPrintedLast() {
        CoreText x = Expect.read("stage abcdef;");
        x.print();
        Expect.feed(x, "stage x;");
        x.read();
        Expect.same("not printed yet", Expect.lastPrinted(x), "stage abcdef;\n");
        x.print();
        Expect.same("printed last", Expect.lastPrinted(x), "stage x;\n");
        Expect.outside("a byte of what was printed before", () -> x.out(9));
    }

    // Promise 15: "IndexOutOfBoundsException, when there is none."
    private static void outOfBytesThatAreNone() {
        CoreText fresh = new CoreText();
        Expect.outside("out(0) of a new object", () -> fresh.out(0));
        Expect.outside("out(-1) of a new object", () -> fresh.out(-1));
        fresh.print();
        Expect.outside("out(0) of nothing", () -> fresh.out(0));
        CoreText x = Expect.read("stage s;");
        Expect.outside("out(0) before print", () -> x.out(0));
        x.print();
        Expect.same("the first", x.out(0), 's');
        Expect.same("the last", x.out(8), 10);
        Expect.refused("out(9)", x, IndexOutOfBoundsException.class, () -> x.out(9));
        for (int i : WRONG) {
            Expect.outside("out(" + i + ")", () -> x.out(i));
        }
        x.read();
        x.print();
        Expect.outside("out(0) behind a print of nothing", () -> x.out(0));
    }

    // Promise 16: "What was printed last comes as the text": of nothing printed an empty one.
    private static void againOfNothingPrinted() {
        CoreText x = new CoreText();
        Expect.same("again of a new object", x.again(), 0);
        Expect.feed(x, "stage s;");
        Expect.same("again of nothing printed", x.again(), 0);
        Expect.same("count(0)", x.count(0), 0);
        Expect.same("read", x.read(), 0);
        Expect.same("nothing was read", x.count(2), 0);
    }

    // Promise 16: "(what is there is gone;"
    private static void againPutsWhatIsThereAway() {
        CoreText x = Expect.read("stage s;");
        x.print();
        Expect.feed(x, "class a; this is longer than what was printed $");
        Expect.same("again", x.again(), 9);
        Expect.same("count(0)", x.count(0), 9);
        Expect.same("again once more", x.again(), 9);
        Expect.same("count(0)", x.count(0), 9);
        Expect.same("read", x.read(), 1);
        Expect.same("stages", x.count(2), 1);
        Expect.same("classes", x.count(1), 0);
        x.again();
        Expect.feed(x, "stage t; stage u");
        Expect.same("feed behind again", x.count(0), 25);
        Expect.feed(x, ";");
        Expect.same("read of both", x.read(), 3);
        x.again();
        Expect.thrown("end behind again", IllegalStateException.class, () -> x.end(16));
    }

    // Promise 16: "it may have some more than 4096 bytes then)": 4096 and fewer still take a feed
    // only where it has room.
    private static void againOf4096() {
        // Names that are shorter by 51 in all, so that what is printed has just 4096 bytes.
        String text = Largest.text().replace("port789abca0", "p").replace("port789abca1", "q")
                .replace("port789abca2", "r").replace("port789abca3", "s")
                .replace("port789abca4", "tuvwx");
        CoreText full = Expect.read(text);
        Expect.same("print", full.print(), 4096);
        Expect.same("again", full.again(), 4096);
        Expect.thrown("feed at 4096", IllegalStateException.class, () -> full.feed(0, 0, 0, 0));
        Expect.same("end(0)", full.end(0), 4080);
        Expect.same("feed at 4080", full.feed(0, 0, 0, 0), 4096);
    }

    // Promise 16: "it may have some more than 4096 bytes then): how many bytes."
    private static void againOfMoreThan4096() {
        CoreText x = Expect.read(Largest.text());
        x.print();
        Expect.same("again of the largest", x.again(), 4147);
        Expect.same("count(0)", x.count(0), 4147);
        Expect.refusedFeed(x, 4147);
        Expect.same("read", x.read(), 1 + 12 + 3 * 12 + 24 + 8 + 8);
        Expect.same("print", x.print(), 4147);
        x.again();
        Expect.same("end(16)", x.end(16), 4147);
        Expect.same("end(15)", x.end(15), 4146);
        Expect.same("end(15) again", x.end(15), 4145);
        Expect.thrown("read of what was cut", IllegalArgumentException.class, x::read);
        Expect.same("fault", x.fault(0), 2);
        Expect.same("place beyond 4096", x.fault(1), 4145);
        x.again();
        for (int size = 4131; size >= 4083; size -= 16) {
            Expect.same("end(0)", x.end(0), size);
        }
        Expect.refusedFeed(x, 4083);
        Expect.same("end(13)", x.end(13), 4080);
        Expect.same("feed at 4080", x.feed(0, 0, 0, 0), 4096);
    }

    // Promise 16: "What was printed last": it stays, and so does what was read.
    private static void againKeepsWhatWasPrinted() {
        CoreText x = Expect.read("class a; stage s; result a > s;");
        x.print();
        String before = Expect.state(x).substring(2);
        x.again();
        String size = Integer.toString(x.count(8));
        Expect.same("state behind again", Expect.state(x).substring(size.length() + 1), before);
    }
}
