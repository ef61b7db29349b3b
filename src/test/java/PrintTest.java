/** Promises 14 (print), 15 (out) and the printed part of 16 (again) and 17 (count). */
final class PrintTest {
    public static void main(String[] args) {
        printsNothing();
        printsEachLine();
        printsInOrder();
        printsNamesAndNumbers();
        printsEveryCharacterOfAName();
        outRefuses();
        printedStaysUntilPrint();
        printedReadsTheSame();
        Expect.finish();
    }

    private static void prints(String want, String text) {
        CoreText x = Expect.read(text);
        Expect.same("print of " + text, x.print(), want.length());
        Expect.same("printed of " + text, Expect.printed(x), want);
        Expect.same("count(8) of " + text, x.count(8), want.length());
    }

    private static void printsNothing() {
        prints("", "");
        prints("", "# nothing");
    }

    private static void printsEachLine() {
        prints("class a;\nlatency a = 1;\n", "class a;");
        prints("class a, b;\nlatency a = 1;\nlatency b = 7;\n",
                "class a; class b; latency b = 07;");
        prints("stage s;\n", "stage s;");
        prints("stage s does fetch;\n", "stage s does fetch;");
        prints("stage s does fetch, decode, read, execute, memory, write, commit;\n",
                "stage s does commit, write, memory, execute, read, decode, fetch;");
        prints("class a;\nstage s;\nlatency a = 1;\nresult a > s;\nstall a;\n",
                "stage s; class a; stall a; result a > s;");
        prints("stage s;\nstage t;\npath t > s;\npath s > t;\n",
                "stage s; stage t; path t > s; path s > t;");
        prints("stage s;\nqueue q = 4;\nqueue r = 5 in s;\n",
                "queue q = 4; stage s; queue r = 5 in s;");
        prints("class a, b, c;\nlatency a = 1;\nlatency b = 1;\nlatency c = 1;\n"
                + "port q : a, c;\nport p : b;\n", "class a, b, c; port q : c, a; port p : b;");
    }

    private static void printsInOrder() {
        prints("class add, mul;\nstage f does fetch, decode;\nstage x does execute;\nstage y;\n"
                + "latency add = 12;\nresult add > x;\nlatency mul = 1;\nresult mul > y;\n"
                + "stall mul;\npath y > x;\npath x > x;\nqueue q = 4 in x;\nqueue n = 999;\n"
                + "port p : add, mul;\n",
                "class add; stage f does decode, fetch; "
                + "stage x does execute; stage y; class mul; path y > x; result mul > y; "
                + "queue q = 4 in x; port p : mul, add; stall mul; result add > x; "
                + "latency add = 12; path x > x; queue n = 999;");
    }

    private static void printsNamesAndNumbers() {
        String names = "a, z, a0, z9, zz, abcdefghijkl, mnopqrstuvwx, yz0123456789, zzzzzzzzzzzz, "
                + "z99999999999, aaaaaaaaaaaa, a00000000000";
        CoreText x = Expect.read("class " + names + ";");
        Expect.same("names", Expect.printed(x).split("\n")[0], "class " + names + ";");
        for (int n = 1; n <= 999; n++) {
            String line = "queue q = " + n + ";\n";
            Expect.same("number", Expect.printed(Expect.read(line)), line);
        }
        for (int n = 1; n <= 99; n++) {
            String line = "class a;\nlatency a = " + n + ";\n";
            Expect.same("number", Expect.printed(Expect.read(line)), line);
        }
    }

    /** Each character at each place of names of each length, behind the lowest and the highest. */
    private static void printsEveryCharacterOfAName() {
        for (int size = 1; size <= 12; size++) {
            for (int place = 0; place < size; place++) {
                String fit = place == 0 ? "abcdefghijklmnopqrstuvwxyz"
                        : "abcdefghijklmnopqrstuvwxyz0123456789";
                for (char c : fit.toCharArray()) {
                    printsName("a".repeat(place) + c + "a".repeat(size - place - 1));
                    printsName(("z" + "9".repeat(12)).substring(0, place) + c
                            + "9".repeat(size - place - 1));
                }
            }
        }
    }

    private static void printsName(String name) {
        String line = "stage " + name + ";\n";
        Expect.same("name", Expect.printed(Expect.read(line)), line);
    }

    private static void outRefuses() {
        CoreText x = new CoreText();
        Expect.outside("out before print", () -> x.out(0));
        Expect.feed(x, "stage s;");
        x.read();
        Expect.outside("out before print of a core", () -> x.out(0));
        Expect.same("print", x.print(), 9);
        Expect.same("out(0)", x.out(0), 's');
        Expect.same("out(8)", x.out(8), 10);
        Expect.outside("out(9)", () -> x.out(9));
        Expect.outside("out(-1)", () -> x.out(-1));
        Expect.outside("out(min)", () -> x.out(Integer.MIN_VALUE));
        Expect.outside("out(max)", () -> x.out(Integer.MAX_VALUE));
    }

    private static void printedStaysUntilPrint() {
        CoreText x = Expect.read("stage s;");
        x.print();
        Expect.feed(x, "stage long, $");
        Expect.thrown("read", IllegalArgumentException.class, x::read);
        Expect.same("count(8)", x.count(8), 9);
        Expect.same("out(6)", x.out(6), 's');
        Expect.same("print", x.print(), 0);
        Expect.outside("out(0)", () -> x.out(0));
        Expect.same("again", x.again(), 0);
    }

    private static void printedReadsTheSame() {
        CoreText x = Expect.read(Largest.text());
        String first = Expect.printed(x);
        String errors = Expect.errors(x);
        String remarks = Expect.remarks(x);
        x.again();
        x.read();
        Expect.same("printed again", Expect.printed(x), first);
        Expect.same("errors again", Expect.errors(x), errors);
        Expect.same("remarks again", Expect.remarks(x), remarks);
        Expect.same("printed length", first.length(), 4147);
    }
}
