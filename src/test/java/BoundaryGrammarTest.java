import java.util.List;

/**
 * Boundary cases of the document's 'Terms', GRAMMAR and FAULTS; promises 4 (read) and 5 (fault)
 * rest on them. Each test is of the sentence that stands above it.
 */
final class BoundaryGrammarTest {
    private static final String START = "class a, b; stage s; stage t; queue q = 1; port p : a; ";
    private static final List<String> TASKS =
            List.of("fetch", "decode", "read", "execute", "memory", "write", "commit");
    private static final String[] LEXEMES = ("class stage does latency result path stall queue in "
            + "port fetch decode read execute memory write commit : ; , > = 7 b t n").split(" ");

    /** What was written of a statement, and what may come then: NAME, NUMBER, TASK, or itself. */
    private static final String[][] WHAT_FITS = {
        {"", "class stage latency result path stall queue port"},
        {"class ", "NAME"}, {"class x ", ", ;"}, {"class x , ", "NAME"},
        {"stage ", "NAME"}, {"stage x ", "does ;"}, {"stage x does ", "TASK"},
        {"stage x does fetch ", ", ;"}, {"stage x does fetch , ", "TASK"},
        {"latency ", "NAME"}, {"latency a ", "="}, {"latency a = ", "NUMBER"},
        {"latency a = 5 ", ";"},
        {"result ", "NAME"}, {"result a ", ">"}, {"result a > ", "NAME"}, {"result a > s ", ";"},
        {"path ", "NAME"}, {"path s ", ">"}, {"path s > ", "NAME"}, {"path s > s ", ";"},
        {"stall ", "NAME"}, {"stall a ", ", ;"}, {"stall a , ", "NAME"},
        {"queue ", "NAME"}, {"queue x ", "="}, {"queue x = ", "NUMBER"}, {"queue x = 5 ", "in ;"},
        {"queue x = 5 in ", "NAME"}, {"queue x = 5 in s ", ";"},
        {"port ", "NAME"}, {"port x ", ":"}, {"port x : ", "NAME"}, {"port x : a ", ", ;"},
        {"port x : a , ", "NAME"}};

    public static void main(String[] args) {
        textOfNoStatement();
        listsOfOneAndOfMany();
        optionsThereAndNot();
        shortestAndLongestStatements();
        fullOfEachSort();
        fullOfAllSorts();
        mostStatements();
        stagesInTheirOrder();
        placeIsAByte();
        placeOfTheEnd();
        firstFaultByItsPlace();
        lowestNumberOfOneLexeme();
        whatBeginsNoLexeme();
        nameOfMoreThan12();
        lexemeThatDoesNotFit();
        endThatDoesNotFit();
        nameTooMany();
        path25();
        thereAlready();
        notToldBefore();
        ofAnotherSort();
        secondLatencyOrResult();
        secondStall();
        classTwiceInAPort();
        taskDoneAlready();
        samePathTwice();
        latency1To99();
        queue1To999();
        Expect.finish();
    }

    // Terms: "text: {{ statement }}.": none is a text, too.
    private static void textOfNoStatement() {
        Expect.fine("", 0);
        Expect.fine(" \n", 0);
        Expect.fine("stage s;", 1);
        Expect.fine("stage s;stage t;", 2);
        Expect.faulty(2, 0, ";");
        Expect.faulty(2, 8, "stage s;;");
    }

    // Terms: "({{ }} as often as one likes"
    private static void listsOfOneAndOfMany() {
        Expect.fine("class a;", 1);
        Expect.fine("class " + Expect.names("c", 12) + ";", 1);
        Expect.fine("stage s does fetch;", 1);
        Expect.fine("stage s does " + String.join(",", TASKS) + ";", 1);
        String classes = "class " + Expect.names("c", 12) + ";";
        Expect.fine(classes + "stall ca0;", 2);
        Expect.fine(classes + "stall " + Expect.names("c", 12) + ";", 2);
        Expect.fine(classes + "port p : ca0;", 2);
        Expect.fine(classes + "port p : " + Expect.names("c", 12) + ";", 2);
    }

    // Terms: "[ ] perhaps)."
    private static void optionsThereAndNot() {
        Expect.fine("stage s;", 1);
        Expect.fine("stage s does fetch;", 1);
        Expect.faulty(2, 12, "stage s does;");
        Expect.fine("stage s; queue q = 5;", 2);
        Expect.fine("stage s; queue q = 5 in s;", 2);
        Expect.faulty(2, 23, "stage s; queue q = 5 in;");
    }

    // Terms: "statement: class NAME {{ , NAME }} ; | stage NAME [ does TASK {{ , TASK }} ] ; |
    // latency CLASS = NUMBER ; | result CLASS > STAGE ; | path STAGE > STAGE ; | stall CLASS
    // {{ , CLASS }} ; | queue NAME = NUMBER [ in STAGE ] ; | port NAME : CLASS {{ , CLASS }} ;.
    // (CLASS, STAGE: NAMES.)"
    private static void shortestAndLongestStatements() {
        String[] statements = {"class x;", "class x,y,z;", "stage x;", "stage x does read;",
            "stage x does read,write,commit;", "latency a=1;", "result a>s;", "path s>t;",
            "path s>s;", "stall a;", "stall b,a;", "queue x=1;", "queue x=999 in t;", "port x:a;",
            "port x:b,a;"};
        for (String statement : statements) {
            Expect.fine(START + statement, 6);
            Expect.fine(START + statement.replaceAll("([:;,>=])", "\n$1\t"), 6);
            int end = START.length() + statement.length();
            Expect.faulty(2, end - 1, START + statement.substring(0, statement.length() - 1));
            Expect.faulty(2, end, START + statement + ";");
        }
    }

    // Terms: "Up to 12 classes, 12 stages, 8 queues, 8 ports, 24 paths."
    private static void fullOfEachSort() {
        Expect.fine(Largest.classes(12), 1);
        Expect.fine(Largest.classes(11) + "class x;", 2);
        Expect.fine(Largest.stages(12), 12);
        Expect.fine(Largest.stages(8) + Largest.queues(8), 16);
        Expect.fine(Largest.classes(12) + Largest.ports(8), 9);
        Expect.fine(Largest.stages(12) + Largest.paths(24), 36);
        String list = Largest.classes(12).replace(';', ',');
        Expect.faulty(3, list.length(), list + "x;");
        Expect.faultBehind(Largest.classes(12), 3, 6, "class x;");
        Expect.faultBehind(Largest.stages(12), 3, 6, "stage x;");
        Expect.faultBehind(Largest.stages(8) + Largest.queues(8), 3, 6, "queue x = 1;");
        Expect.faultBehind(Largest.classes(12) + Largest.ports(8), 3, 5, "port x : y;");
        Expect.faultBehind(Largest.stages(12) + Largest.paths(24), 3, 20,
                "path stage89abca0 > stage89abca2;");
    }

    // Terms: "Up to 12 classes, 12 stages, 8 queues, 8 ports, 24 paths.": all at once.
    private static void fullOfAllSorts() {
        CoreText x = Expect.read(Largest.text());
        Expect.same("counts", Expect.counts(x), "0 12 12 24 8 8 78 5 0");
        Expect.same("latency of the last class", x.ofClass(11, 0), 99);
        Expect.same("result of the last class", x.ofClass(11, 1), 11);
        Expect.same("stall of the last class", x.ofClass(11, 2), 1);
        Expect.same("ports of the last class", x.ofClass(11, 3), 8);
        Expect.same("last path's first stage", x.path(23, 0), 11);
        Expect.same("last path's second stage", x.path(23, 1), 1);
        Expect.same("last queue's size", x.queue(7, 0), 999);
        Expect.same("last queue's stage", x.queue(7, 1), 7);
        Expect.same("last port's last class", x.port(7, 11) ? 1 : 0, 1);
    }

    // Promise 4: "how many statements", and Terms' limits: there are 100 at most.
    private static void mostStatements() {
        StringBuilder all = new StringBuilder();
        for (int i = 0; i < 12; i++) {
            String cls = Expect.name("c", i);
            String stage = Expect.name("s", i);
            all.append("class " + cls + ";stage " + stage + ";latency " + cls + "=1;");
            all.append("result " + cls + ">" + stage + ";stall " + cls + ";");
            all.append("path " + stage + ">sa0;");
            all.append(i == 0 ? "" : "path sa0>" + stage + ";");
        }
        for (int i = 0; i < 8; i++) {
            all.append("queue " + Expect.name("q", i) + "=1;port " + Expect.name("p", i) + ":ca0;");
        }
        all.append("path sa1>sa1;");
        Expect.fine(all.toString(), 100);
    }

    // Terms: "Stages are in the order in which they are told."
    private static void stagesInTheirOrder() {
        CoreText x = Expect.read("stage z does commit; stage a does fetch; stage m does read;");
        Expect.same("the first", x.task(6), 0);
        Expect.same("the second", x.task(0), 1);
        Expect.same("the last", x.task(2), 2);
    }

    // Terms: "FAULTS, number and place (a byte;"
    private static void placeIsAByte() {
        Expect.faulty(1, 0, "$");
        Expect.faulty(2, 0, "a");
        Expect.faulty(2, 3, "\n\n\n7");
        Expect.faulty(1, 7, "class a$");
        Expect.faulty(2, 14, "class a;# ; $\n;");
        for (int i = 0; i < 64; i++) {
            Expect.faulty(2, i, " ".repeat(i) + ";;");
        }
    }

    // Terms: "the text's length for its end)": white at the end counts.
    private static void placeOfTheEnd() {
        Expect.faulty(2, 5, "class");
        Expect.faulty(2, 7, "class a");
        Expect.faulty(2, 8, "class a ");
        Expect.faulty(2, 9, "class a \n");
        Expect.faulty(2, 13, "class a # b;\n");
        Expect.faulty(2, 12, "class a # b;");
        Expect.faulty(2, 4096, "class a" + " ".repeat(4089));
    }

    // Terms: "the first one by its place, lexeme by lexeme": of each two faults the one in front.
    private static void firstFaultByItsPlace() {
        String start = Largest.classes(12) + "stage s; latency class89abca0 = 5;";
        String[] pieces = {"$", "in", "class x", "stage s", "stall x", "stall s",
            "latency class89abca0", "queue q = 0"};
        int[] places = {0, 0, 6, 6, 6, 6, 8, 10};
        for (int first = 0; first < 8; first++) {
            for (int second = 0; second < 8; second++) {
                String piece = pieces[first] + " ; " + pieces[second] + ";";
                Expect.faultBehind(start, first + 1, places[first], piece);
            }
        }
        Expect.faulty(5, 6, "stall x $");
        Expect.faulty(4, 9, "class a, a b;");
        Expect.faulty(8, 10, "queue q = 0 =");
        Expect.faulty(2, 6, "class > abcdefghijklm;");
    }

    // Terms: "(of one lexeme the lowest number)"
    private static void lowestNumberOfOneLexeme() {
        Expect.faulty(1, 6, "class $");
        Expect.faulty(1, 7, "class a$");
        Expect.faulty(1, 8, "class a abcdefghijklm");
        String full = Largest.classes(12);
        Expect.faultBehind(full, 1, 6, "class abcdefghijklm;");
        Expect.faultBehind(full, 2, 6, "class in;");
        Expect.faultBehind(full, 2, 6, "class 5;");
        Expect.faultBehind(full, 3, 6, "class class89abca0;");
        String paths = Largest.stages(12) + "class a;" + Largest.paths(24);
        String piece = "path stage89abca0 > ";
        Expect.faultBehind(paths, 1, 20, piece + "abcdefghijklm;");
        Expect.faultBehind(paths, 2, 20, piece + "in;");
        Expect.faultBehind(paths, 2, 20, piece + "5;");
        Expect.faultBehind(paths, 2, 20, piece);
        Expect.faultBehind(paths, 3, 20, piece + "unknown;");
        Expect.faultBehind(paths, 3, 20, piece + "a;");
        Expect.faultBehind(paths, 3, 20, piece + "stage89abca0;");
        Expect.faultBehind(paths, 3, 20, piece + "stage89abca9;");
    }

    // Terms, fault 1: "what begins no lexeme"
    private static void whatBeginsNoLexeme() {
        for (int c = 0; c < 256; c++) {
            boolean white = c == 9 || c == 10 || c == 13 || c == 32 || c == '#';
            boolean begins = ":;,>=abcdefghijklmnopqrstuvwxyz0123456789".indexOf(c) >= 0;
            if (white) {
                Expect.fine("class a; " + (char) c, 1);
            } else {
                Expect.faulty(begins ? 2 : 1, 9, "class a; " + (char) c);
            }
        }
    }

    // Terms, fault 1: "or a name of more than 12."
    private static void nameOfMoreThan12() {
        Expect.faulty(2, 0, "abcdefghijkl");
        Expect.faulty(1, 0, "abcdefghijklm");
        Expect.faulty(1, 9, "class a; latencylatency a = 1;");
        Expect.faulty(1, 8, "class a,abcdefghijklmnopqrstuvwxyz0123456789");
        // Thirteen that would be a told name of twelve, were the first or the last one not counted.
        Expect.faulty(1, 26, "class abcdefghijkl; stall abcdefghijkla;");
        Expect.faulty(1, 26, "class abcdefghijkl; stall aabcdefghijkl;");
    }

    // Terms, fault 2: "a lexeme that does not fit": each lexeme at each place of the grammar.
    private static void lexemeThatDoesNotFit() {
        for (String[] row : WHAT_FITS) {
            for (String lexeme : LEXEMES) {
                if (!fits(lexeme, row[1])) {
                    Expect.faultBehind(START, 2, row[0].length(), row[0] + lexeme);
                    Expect.faultBehind(START, 2, row[0].length(), row[0] + lexeme + " $");
                } else {
                    notRefused(row[0], lexeme);
                }
            }
        }
    }

    private static boolean fits(String lexeme, String wanted) {
        String kind = lexeme;
        if (lexeme.length() == 1 && Character.isLetter(lexeme.charAt(0))) {
            kind = "NAME";
        } else if (lexeme.equals("7")) {
            kind = "NUMBER";
        } else if (TASKS.contains(lexeme)) {
            kind = "TASK";
        }
        return (" " + wanted + " ").contains(" " + kind + " ");
    }

    /** The lexeme fits, so that its fault, if there is one at all, is none of the grammar. */
    private static void notRefused(String piece, String lexeme) {
        CoreText x = new CoreText();
        String all = START + piece + lexeme + " $";
        Expect.feed(x, all);
        Expect.thrown("read of " + all, IllegalArgumentException.class, x::read);
        int there = START.length() + piece.length();
        boolean later = x.fault(1) == there + lexeme.length() + 1 && x.fault(0) == 1;
        boolean here = x.fault(1) == there && x.fault(0) >= 4;
        Expect.same(lexeme + " fits behind " + piece, later || here ? 1 : 0, 1);
    }

    // Terms, fault 2: "or the end."
    private static void endThatDoesNotFit() {
        for (String[] row : WHAT_FITS) {
            String all = START + row[0];
            if (row[0].isEmpty()) {
                Expect.fine(all, 5);
            } else {
                Expect.faulty(2, all.length(), all);
                Expect.faulty(2, all.length() - 1, all.substring(0, all.length() - 1));
                Expect.faulty(2, all.length() + 2, all + "\n#");
            }
        }
    }

    // Terms, fault 3: "a NAME that would be one too many (told by itself)"
    private static void nameTooMany() {
        Expect.faulty(3, 30, "class a,b,c,d,e,f,g,h,i,j,k,l,m;");
        Expect.faulty(3, 30, "class a,b,c,d,e,f,g,h,i,j,k,l,m,n");
        Expect.faultBehind(Largest.stages(12), 3, 8, "stage   x does fetch;");
        Expect.faultBehind(Largest.stages(8) + Largest.queues(8), 3, 6, "queue x = 0;");
        Expect.faultBehind(Largest.classes(12) + Largest.ports(8), 3, 5, "port x;");
        // Each sort is counted by itself, and a name that is told of again is not one more.
        Expect.fine(Largest.classes(12) + "stage x; queue y = 1; port z : class89abca0;", 4);
        Expect.fine(Largest.stages(12) + "class x; queue y = 1; port z : x;", 15);
        Expect.fine(Largest.classes(12) + "stall class89abca0; latency class89abcb1 = 1;", 3);
    }

    // Terms, fault 3: "or the 25th path (told by its second STAGE)."
    private static void path25() {
        String full = Largest.stages(12) + Largest.paths(23);
        Expect.fine(full + "path stage89abcb1 > stage89abcb1;", 36);
        full += "path stage89abcb1 > stage89abcb1;";
        Expect.faultBehind(full, 3, 20, "path stage89abca0 > stage89abca5;");
        Expect.faultBehind(full, 3, 20, "path stage89abca0 > stage89abca5");
        Expect.faultBehind(full, 5, 5, "path unknown > stage89abca5;");
        Expect.faultBehind(full, 2, 18, "path stage89abca0 ; stage89abca5;");
    }

    // Terms, fault 4: "a NAME (behind class, stage, queue, port) that is there already."
    private static void thereAlready() {
        for (String name : new String[] {"a", "b", "s", "t", "q", "p"}) {
            Expect.faultBehind(START, 4, 6, "class " + name + ";");
            Expect.faultBehind(START, 4, 9, "class x, " + name + ";");
            Expect.faultBehind(START, 4, 6, "stage " + name + ";");
            Expect.faultBehind(START, 4, 6, "queue " + name + " = 1;");
            Expect.faultBehind(START, 4, 5, "port " + name + " : a;");
        }
        Expect.faulty(4, 9, "class x, x;");
        Expect.faulty(4, 12, "class x, y, x;");
    }

    // Terms, fault 5: "a NAME that was not told before."
    private static void notToldBefore() {
        String[] wanting = {"latency ", "result ", "result a > ", "path ", "path s > ", "stall ",
            "stall a, ", "queue x = 1 in ", "port x : ", "port x : b, "};
        for (String piece : wanting) {
            Expect.faultBehind(START, 5, piece.length(), piece + "unknown");
            Expect.faultBehind(START, 5, piece.length(), piece + "unknown; class unknown;");
            Expect.faultBehind(START + "# class unknown;\n", 5, piece.length(), piece + "unknown");
        }
        CoreText x = Expect.read("class a; stage s;");
        Expect.feed(x, "stall a;");
        Expect.thrown("told before an earlier read", IllegalArgumentException.class, x::read);
        Expect.same("its fault", x.fault(0), 5);
        Expect.same("its place", x.fault(1), 6);
    }

    // Terms, fault 6: "a NAME of another sort than wanted."
    private static void ofAnotherSort() {
        String[] wantingClass = {"latency ", "result ", "stall ", "stall a, ", "port x : ",
            "port x : b, "};
        for (String piece : wantingClass) {
            for (String name : new String[] {"s", "t", "q", "p"}) {
                Expect.faultBehind(START, 6, piece.length(), piece + name);
            }
        }
        String[] wantingStage = {"result a > ", "path ", "path s > ", "queue x = 1 in "};
        for (String piece : wantingStage) {
            for (String name : new String[] {"a", "b", "q", "p"}) {
                Expect.faultBehind(START, 6, piece.length(), piece + name);
            }
        }
        Expect.faultBehind(START, 6, 9, "port x : x;");
        Expect.faultBehind(START, 6, 15, "queue x = 1 in x;");
    }

    // Terms, fault 7: "a second latency or result of a CLASS" "(told by the CLASS"
    private static void secondLatencyOrResult() {
        Expect.fine(START + "latency a = 1; latency b = 1; result a > s; result b > s;", 9);
        Expect.faultBehind(START, 7, 23, "latency a = 1; latency a = 2;");
        Expect.faultBehind(START, 7, 23, "latency b = 1; latency b");
        Expect.faultBehind(START, 7, 21, "result a > s; result a > t;");
        Expect.faultBehind(START, 7, 21, "result b > t; result b");
    }

    // Terms, fault 7: "a second stall of it"
    private static void secondStall() {
        Expect.fine(START + "stall a; stall b;", 7);
        Expect.fine(START + "stall b, a;", 6);
        Expect.faultBehind(START, 7, 15, "stall a; stall a;");
        Expect.faultBehind(START, 7, 18, "stall a; stall b, a;");
        Expect.faultBehind(START, 7, 9, "stall a, a;");
        Expect.faultBehind(START, 7, 12, "stall a, b, a;");
    }

    // Terms, fault 7: "a CLASS twice in one port"
    private static void classTwiceInAPort() {
        Expect.fine(START + "port x : a, b; port y : b, a; port z : a;", 8);
        Expect.faultBehind(START, 7, 12, "port x : a, a;");
        Expect.faultBehind(START, 7, 15, "port x : a, b, a;");
        Expect.faultBehind(START, 7, 30, "port x : a, b; port y : b, a, b;");
    }

    // Terms, fault 7: "a TASK that another stage (or this one) does already"
    private static void taskDoneAlready() {
        for (String task : TASKS) {
            int place = "stage x does ".length() + task.length();
            Expect.faulty(7, place + 1, "stage x does " + task + "," + task + ";");
            Expect.faulty(7, place + 14, "stage x does " + task + ";stage y does " + task + ";");
            for (String other : TASKS) {
                if (!other.equals(task)) {
                    Expect.fine("stage x does " + task + "; stage y does " + other + ";", 2);
                    Expect.fine("stage x does " + task + ", " + other + ";", 1);
                }
            }
        }
    }

    // Terms, fault 7: "the same path twice (told by the CLASS, TASK, second STAGE)."
    private static void samePathTwice() {
        Expect.fine(START + "path s > t; path t > s; path s > s; path t > t;", 9);
        Expect.faultBehind(START, 7, 21, "path s > t; path s > t;");
        Expect.faultBehind(START, 7, 21, "path s > s; path s > s");
        Expect.faultBehind(START, 7, 33, "path s > t; path t > s; path s > t;");
    }

    // Terms, fault 8: "a NUMBER that is not 1 .. 99 (latency)"
    private static void latency1To99() {
        for (int n = 0; n <= 110; n++) {
            String piece = "latency a = " + n + ";";
            if (n >= 1 && n <= 99) {
                Expect.same(piece, Expect.read(START + piece).ofClass(0, 0), n);
            } else {
                Expect.faultBehind(START, 8, 12, piece);
            }
        }
        Expect.faultBehind(START, 8, 12, "latency a = 000;");
        Expect.faultBehind(START, 8, 12, "latency a = 0100;");
        Expect.faultBehind(START, 8, 12, "latency a = 999;");
        Expect.same("099", Expect.read(START + "latency a = 099;").ofClass(0, 0), 99);
    }

    // Terms, fault 8: "1 .. 999 (queue)."
    private static void queue1To999() {
        for (int n : new int[] {1, 2, 9, 10, 99, 100, 101, 998, 999}) {
            Expect.same("queue " + n, Expect.read("queue x = " + n + ";").queue(0, 0), n);
        }
        for (String n : new String[] {"0", "00", "1000", "1001", "01000", "9999", "10000"}) {
            Expect.faulty(8, 10, "queue x = " + n + ";");
            Expect.faulty(8, 10, "queue x = " + n + " in");
        }
        Expect.same("0999", Expect.read("queue x = 0999;").queue(0, 0), 999);
    }
}
