/** Promises 4 (read) and 5 (fault): lexemes, grammar, limits and every fault with its place. */
final class ReadTest {
    public static void main(String[] args) {
        readsStatements();
        readsLexemes();
        whatWasReadIsGone();
        nothingStaysOfEachSort();
        faultTellsTheLatestRead();
        noLexeme();
        doesNotFit();
        tooMany();
        thereAlready();
        notTold();
        otherSort();
        twice();
        outOfRange();
        lowestNumberOfOneLexeme();
        firstPlaceWins();
        Expect.finish();
    }

    private static void readsStatements() {
        Expect.fine("", 0);
        Expect.fine("class a;", 1);
        Expect.fine("class a, b, c;class d;", 2);
        Expect.fine("stage s;", 1);
        Expect.fine("stage s does fetch;", 1);
        Expect.fine("stage s does commit,write,memory,execute,read,decode,fetch;", 1);
        Expect.fine("class a; latency a = 1; ", 2);
        Expect.fine("class a; stage s; result a > s;", 3);
        Expect.fine("stage s; stage t; path s > t; path t > s; path s > s;", 5);
        Expect.fine("class a, b, c; stall a; stall c, b;", 3);
        Expect.fine("queue q = 1; stage s; queue r = 999 in s;", 3);
        Expect.fine("class a, b; port p : b; port q : b, a;", 3);
        Expect.fine(Largest.text(), 1 + 12 + 1 + 24 + 24 + 8 + 8);
    }

    private static void readsLexemes() {
        Expect.fine("# only a comment", 0);
        Expect.fine("#", 0);
        Expect.fine("\t\n\r ", 0);
        Expect.fine("class\ta\r\n,b#,\n,c ; # class a;\n#\n#class a;", 1);
        Expect.fine("class a;#$%&\u00ff\u0000\rclass a;\nclass b;", 2);
        Expect.fine("class a1b2c3d4e5f6,a;", 1);
        Expect.fine("class a;latency a=99;", 2);
        Expect.fine("class a;latency a=0000000000000000000000000000000000000000000001;", 2);
        Expect.fine("stage s;queue q=999in s;", 2);
        Expect.fine("class classes, i, inn, portx, fetch1, re;", 1);
        Expect.fine("class z9, zz, zzzzzzzzzzzz, z99999999999;", 1);
    }

    private static void whatWasReadIsGone() {
        CoreText x = Expect.read("class a, b; stage s; queue q = 1; port p : a; path s > s;");
        Expect.same("counts", Expect.counts(x), "0 2 1 1 1 1 5 3 0");
        Expect.feed(x, "class a;");
        Expect.same("read", x.read(), 1);
        Expect.same("counts", Expect.counts(x), "0 1 0 0 0 0 1 0 0");
        Expect.same("no port has it", x.ofClass(0, 3), 0);
        Expect.feed(x, "class b; latency b = 0;");
        Expect.thrown("read", IllegalArgumentException.class, x::read);
        Expect.same("counts behind a fault", Expect.counts(x), "0 0 0 0 0 0 0 0 0");
        Expect.same("errors behind a fault", Expect.errors(x), "1:0 1:2 1:3 1:6");
        Expect.same("print behind a fault", x.print(), 0);
        Expect.feed(x, "class b; latency b = 2;");
        Expect.same("read behind a fault", x.read(), 2);
        Expect.same("latency", x.ofClass(0, 0), 2);
        Expect.same("read of nothing", x.read(), 0);
        Expect.same("counts", Expect.counts(x), "0 0 0 0 0 0 0 0 0");
    }

    private static void nothingStaysOfEachSort() {
        CoreText x = Expect.read("class a; stage s does read; latency a = 5; result a > s; stall a;"
                + "path s > s; queue q = 5 in s; port p : a;");
        String second = "class a, b; stage s; stage t; path t > s; queue q = 6; port p : b;";
        Expect.feed(x, second);
        x.read();
        CoreText fresh = Expect.read(second);
        Expect.same("printed", Expect.printed(x), Expect.printed(fresh));
        Expect.same("errors", Expect.errors(x), Expect.errors(fresh));
        Expect.same("remarks", Expect.remarks(x), Expect.remarks(fresh));
        Expect.same("queue", x.queue(0, 1), CoreText.NONE);
        Expect.same("result", x.ofClass(0, 1), CoreText.NONE);
        Expect.same("task", x.task(2), CoreText.NONE);
    }

    private static void faultTellsTheLatestRead() {
        CoreText x = new CoreText();
        Expect.feed(x, " in");
        Expect.thrown("read", IllegalArgumentException.class, x::read);
        Expect.same("fault", x.fault(0), 2);
        Expect.same("place", x.fault(1), 1);
        Expect.feed(x, "class a;");
        x.print();
        Expect.same("fault stays until a read", x.fault(0), 2);
        x.read();
        Expect.same("fault", x.fault(0), 0);
        Expect.same("place", x.fault(1), 0);
        Expect.outside("fault(2)", () -> x.fault(2));
        Expect.outside("fault(-1)", () -> x.fault(-1));
        Expect.outside("fault(max)", () -> x.fault(Integer.MAX_VALUE));
        Expect.outside("fault(min)", () -> x.fault(Integer.MIN_VALUE));
    }

    private static void noLexeme() {
        Expect.faulty(1, 7, "class a$;");
        Expect.faulty(1, 7, "class aA;");
        Expect.faulty(1, 6, "class abcdefghijklm;");
        Expect.faulty(1, 0, "abcdefghijklm");
        Expect.faulty(1, 9, "class a; latencylatency a = 1;");
        Expect.faulty(1, 6, "class a234567890123456789012345678901234567890;");
        Expect.faulty(2, 0, "abcdefghijkl");
    }

    private static void doesNotFit() {
        Expect.faulty(2, 0, ";");
        Expect.faulty(2, 0, "foo;");
        Expect.faulty(2, 0, "7");
        Expect.faulty(2, 0, "does");
        Expect.faulty(2, 0, "in");
        Expect.faulty(2, 0, "fetch");
        Expect.faulty(2, 8, "class a;;");
        Expect.faulty(2, 6, "class ;");
        Expect.faulty(2, 6, "class ,a;");
        Expect.faulty(2, 8, "class a,;");
        Expect.faulty(2, 8, "class a b;");
        Expect.faulty(2, 6, "class 1a;");
        Expect.faulty(2, 8, "stage a fetch;");
        Expect.faulty(2, 7, "stage a, b;");
        Expect.faulty(2, 12, "stage a does;");
        Expect.faulty(2, 13, "stage a does run;");
        Expect.faulty(2, 13, "stage a does class;");
        Expect.faulty(2, 19, "stage a does fetch decode;");
        Expect.faulty(2, 19, "stage a does fetch,;");
        String start = "class a; stage s; ";
        Expect.faultBehind(start, 2, 8, "latency 5 = 5;");
        Expect.faultBehind(start, 2, 10, "latency a > 5;");
        Expect.faultBehind(start, 2, 12, "latency a = a;");
        Expect.faultBehind(start, 2, 13, "latency a = 5, a;");
        Expect.faultBehind(start, 2, 9, "result a = s;");
        Expect.faultBehind(start, 2, 11, "result a > ;");
        Expect.faultBehind(start, 2, 12, "result a > s, s;");
        Expect.faultBehind(start, 2, 7, "path s , s;");
        Expect.faultBehind(start, 2, 5, "path > s;");
        Expect.faultBehind(start, 2, 10, "path s > s> s;");
        Expect.faultBehind(start, 2, 7, "stall a: a;");
        Expect.faultBehind(start, 2, 6, "stall ;");
        Expect.faultBehind(start, 2, 8, "queue q : 5;");
        Expect.faultBehind(start, 2, 10, "queue q = in s;");
        Expect.faultBehind(start, 2, 12, "queue q = 5 s;");
        Expect.faultBehind(start, 2, 15, "queue q = 5 in ;");
        Expect.faultBehind(start, 2, 16, "queue q = 5 in s, s;");
        Expect.faultBehind(start, 2, 7, "port p a;");
        Expect.faultBehind(start, 2, 9, "port p : ;");
        Expect.faultBehind(start, 2, 10, "port p: a : a;");
        atTheEnd();
    }

    private static void atTheEnd() {
        String all = "class a,b; stage s does read,write; latency a=5; result a>s; path s>s; "
                + "stall a,b; queue q=5 in s; port p:a,b;";
        for (int i = 0; i < all.length(); i++) {
            String start = all.substring(0, i);
            String last = start.trim();
            boolean cutName = i > 0 && Character.isLetterOrDigit(all.charAt(i))
                    && Character.isLetterOrDigit(all.charAt(i - 1));
            if (!cutName && !last.isEmpty() && !last.endsWith(";")) {
                Expect.faulty(2, i, start);
                Expect.faulty(2, i + 3, start + " # ");
                Expect.faulty(2, i + 2, start + "\n\t");
            }
        }
    }

    private static void tooMany() {
        Expect.faultBehind(Largest.classes(12), 3, 6, "class a;");
        Expect.faulty(3, 30, "class a,b,c,d,e,f,g,h,i,j,k,l,m;");
        Expect.faultBehind(Largest.stages(12), 3, 6, "stage a;");
        Expect.faultBehind(Largest.stages(12) + Largest.queues(8), 3, 6, "queue a = 1;");
        Expect.faultBehind(Largest.classes(12) + Largest.ports(8), 3, 5, "port a : a;");
        Expect.faultBehind(Largest.stages(12) + Largest.paths(24), 3, 20,
                "path " + Expect.name(Largest.STAGE, 0) + " > " + Expect.name(Largest.STAGE, 2));
        Expect.fine(Largest.classes(12) + "stage a;", 2);
        Expect.fine(Largest.stages(12) + "class a;", 13);
    }

    private static void thereAlready() {
        String start = "class a; stage s; queue q = 1; port p : a; ";
        for (String name : new String[] {"a", "s", "q", "p"}) {
            Expect.faultBehind(start, 4, 6, "class " + name + ";");
            Expect.faultBehind(start, 4, 6, "stage " + name + ";");
            Expect.faultBehind(start, 4, 6, "queue " + name + " = 1;");
            Expect.faultBehind(start, 4, 5, "port " + name + " : a;");
        }
        Expect.faulty(4, 9, "class a, a;");
        Expect.faulty(4, 12, "class a, b, b;");
    }

    private static void notTold() {
        String start = "class a; stage s; ";
        Expect.faultBehind(start, 5, 8, "latency x = 1;");
        Expect.faultBehind(start, 5, 7, "result x > s;");
        Expect.faultBehind(start, 5, 11, "result a > x;");
        Expect.faultBehind(start, 5, 5, "path x > s;");
        Expect.faultBehind(start, 5, 9, "path s > x;");
        Expect.faultBehind(start, 5, 6, "stall x;");
        Expect.faultBehind(start, 5, 9, "stall a, x;");
        Expect.faultBehind(start, 5, 15, "queue q = 1 in x;");
        Expect.faultBehind(start, 5, 9, "port p : x;");
        Expect.faultBehind(start, 5, 12, "port p : a, x;");
        Expect.faulty(5, 8, "latency a = 1; class a;");
    }

    private static void otherSort() {
        String start = "class a; stage s; queue q = 1; port p : a; ";
        for (String name : new String[] {"s", "q", "p"}) {
            Expect.faultBehind(start, 6, 8, "latency " + name + " = 1;");
            Expect.faultBehind(start, 6, 7, "result " + name + " > s;");
            Expect.faultBehind(start, 6, 6, "stall " + name + ";");
            Expect.faultBehind(start, 6, 9, "port x : " + name + ";");
        }
        for (String name : new String[] {"a", "q", "p"}) {
            Expect.faultBehind(start, 6, 11, "result a > " + name + ";");
            Expect.faultBehind(start, 6, 5, "path " + name + " > s;");
            Expect.faultBehind(start, 6, 9, "path s > " + name + ";");
            Expect.faultBehind(start, 6, 15, "queue x = 1 in " + name + ";");
        }
        Expect.faulty(6, 15, "queue q = 1 in q;");
        Expect.faulty(6, 9, "port p : p;");
    }

    private static void twice() {
        String start = "class a, b; stage s; stage t; ";
        Expect.faultBehind(start, 7, 23, "latency a = 1; latency a = 1;");
        Expect.faultBehind(start, 7, 21, "result a > s; result a > t;");
        Expect.faultBehind(start, 7, 15, "stall a; stall a;");
        Expect.faultBehind(start, 7, 12, "stall a, b, b;");
        Expect.faultBehind(start, 7, 15, "port p : a, b, a;");
        Expect.faultBehind(start, 7, 21, "path s > t; path s > t;");
        Expect.faulty(7, 20, "stage a does fetch, fetch;");
        Expect.faulty(7, 33, "stage a does fetch; stage b does fetch;");
        Expect.fine(start + "port p : a; port q : a; path s > t; path t > s;", 7);
        Expect.fine(start + "latency a = 1; latency b = 1; result a > s; result b > s;", 7);
    }

    private static void outOfRange() {
        String start = "class a; ";
        Expect.faultBehind(start, 8, 12, "latency a = 0;");
        Expect.faultBehind(start, 8, 12, "latency a = 000;");
        Expect.faultBehind(start, 8, 12, "latency a = 100;");
        Expect.faultBehind(start, 8, 12, "latency a = 4294967297;");
        Expect.faultBehind(start, 8, 12, "latency a = 18446744073709551617;");
        Expect.faultBehind(start, 8, 12, "latency a = 1" + "0".repeat(4000) + ";");
        Expect.faulty(8, 10, "queue q = 0;");
        Expect.faulty(8, 10, "queue q = 1000;");
        Expect.faulty(8, 10, "queue q = 10000;");
        Expect.faulty(8, 10, "queue q = 4294967297;");
        Expect.fine(start + "latency a = " + "0".repeat(4000) + "99;", 2);
        Expect.fine("queue q = 999; queue r = 1; queue s = 0999;", 3);
    }

    private static void lowestNumberOfOneLexeme() {
        String classes = Largest.classes(12);
        Expect.faultBehind(classes, 3, 6, "class " + Expect.name(Largest.CLASS, 3) + ";");
        Expect.faultBehind(classes, 2, 6, "class class;");
        Expect.faultBehind(classes, 1, 6, "class abcdefghijklm;");
        String paths = Largest.stages(12) + "class a;" + Largest.paths(24);
        String from = "path " + Expect.name(Largest.STAGE, 0) + " > ";
        Expect.faultBehind(paths, 3, 20, from + "x;");
        Expect.faultBehind(paths, 3, 20, from + "a;");
        Expect.faultBehind(paths, 3, 20, from + Expect.name(Largest.STAGE, 0) + ";");
        Expect.faultBehind(paths, 2, 20, from + "5;");
        Expect.faultBehind(paths, 2, 20, from + "path;");
        Expect.faultBehind(paths, 2, 20, from);
        Expect.faultBehind(paths, 1, 20, from + "$");
        Expect.faultBehind(paths, 5, 5, "path x > x;");
        Expect.faultBehind(paths, 6, 5, "path a > x;");
    }

    private static void firstPlaceWins() {
        Expect.faulty(5, 6, "stall x $");
        Expect.faulty(2, 8, "class a > $");
        Expect.faulty(4, 9, "class a, a, abcdefghijklm;");
        Expect.faulty(8, 10, "queue q = 0 in x;");
        Expect.faulty(7, 32, "class a; latency a = 5; latency a = 0;");
        Expect.faulty(1, 8, "class a $ in");
    }
}
