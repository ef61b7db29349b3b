/**
 * Boundary cases of the document's 'What it is' and of its 'Terms' from THE TEXT to WORDS; promises
 * 4 (read) and 5 (fault) rest on them. Each test is of the sentence that stands above it.
 */
final class BoundaryLexemeTest {
    private static final String[] WORDS = ("class stage does latency result path stall queue in "
            + "port fetch decode read execute memory write commit").split(" ");

    public static void main(String[] args) {
        the512thCallAnswers();
        textOf4096IsReadToItsEnd();
        whiteBytes();
        bytesBesideWhite();
        commentEndsBehind10();
        commentEndsWithTheText();
        nameBeginsWithSmallLetter();
        nameGoesOnWithLettersAndDigits();
        nameIsTheLongest();
        nameHasUpTo12();
        namesOf12DifferInEachCharacter();
        numberIsTheLongest();
        numberWrapsNowhere();
        signsAreFive();
        wordsAreNoNames();
        wordsAreWholeNames();
        Expect.finish();
    }

    // What it is: "An object is used for at most 512 calls after it has been made; what later calls
    // answer is free." The 512th is still promised.
    private static void the512thCallAnswers() {
        CoreText x = new CoreText();
        int white = 0x20202020;
        for (int n = 0; n < 128; n++) {
            Expect.same("feed, call " + (4 * n + 1), x.feed(white, white, white, 0x203b2020), 16);
            Expect.same("end, call " + (4 * n + 2), x.end(14), 14);
            Expect.thrown("read, call " + (4 * n + 3), IllegalArgumentException.class, x::read);
            Expect.same("fault, call " + (4 * n + 4), x.fault(1), 13);
        }
    }

    // Terms: "THE TEXT has at most 4096 bytes."
    private static void textOf4096IsReadToItsEnd() {
        String blanks = " ".repeat(4088);
        Expect.fine(blanks + "class a;", 1);
        Expect.fine(" ".repeat(4096), 0);
        Expect.fine("#".repeat(4096), 0);
        Expect.faulty(1, 4095, blanks + "class a$");
        Expect.faulty(2, 4094, blanks + "class ;;");
        Expect.faulty(2, 4096, blanks + "class ab");
        Expect.faulty(2, 4095, " ".repeat(4095) + "7");
        Expect.faulty(1, 0, "a".repeat(4096));
        Expect.faulty(2, 0, "7".repeat(4096));
    }

    // Terms: "WHITE: 9, 10, 13, 32"
    private static void whiteBytes() {
        for (char c : new char[] {9, 10, 13, 32}) {
            Expect.fine("" + c, 0);
            Expect.fine(c + "class" + c + "a" + c + "," + c + "b" + c + ";" + c, 1);
            Expect.fine("" + c + c + c + "class" + c + c + c + "a;", 1);
            Expect.faulty(2, 8, "class a" + c + "b;");
        }
    }

    // Terms: "WHITE: 9, 10, 13, 32": the bytes beside these are not white.
    private static void bytesBesideWhite() {
        for (char c : new char[] {0, 8, 11, 12, 14, 31, 33, 34, 36, 127, 128, 160, 255}) {
            Expect.faulty(1, 0, "" + c);
            Expect.faulty(1, 1, " " + c + " ");
            Expect.faulty(1, 7, "class a" + c + ";");
        }
    }

    // Terms: "and from # to the end of the line (10)."
    private static void commentEndsBehind10() {
        Expect.fine("#\nclass a;", 1);
        Expect.fine("# class a;\nclass a;", 1);
        Expect.fine("class a;# class a;\nclass b;", 2);
        Expect.fine("class#\na#\n;#\n", 1);
        Expect.fine("##\n#\n\n##class a;", 0);
        Expect.faulty(2, 10, "class a#b\nc;");
        Expect.faulty(2, 2, "#\n;");
        for (int c = 0; c < 256; c++) {
            Expect.fine("#" + (char) c + "\nclass a;", 1);
            if (c != 10) {
                Expect.fine("#" + (char) c + "class a;$", 0);
            }
        }
    }

    // Terms: "and from # to the end of the line (10).": the last line may end without it.
    private static void commentEndsWithTheText() {
        Expect.fine("#", 0);
        Expect.fine("class a;#", 1);
        Expect.fine("class a; # class b", 1);
        Expect.faulty(2, 8, "class a#");
        Expect.faulty(2, 10, "class a# ;");
    }

    // Terms: "NAMES (a small letter, then small letters and digits"
    private static void nameBeginsWithSmallLetter() {
        for (char c = 'a'; c <= 'z'; c++) {
            Expect.fine("class " + c + ";", 1);
        }
        for (char c : new char[] {'a' - 1, 'z' + 1, 'A', 'Z', '_', 'a' + 128, 'z' + 128}) {
            Expect.faulty(1, 6, "class " + c + ";");
            Expect.faulty(1, 6, "class " + c + "a;");
        }
        for (char c = '0'; c <= '9'; c++) {
            Expect.faulty(2, 6, "class " + c + "a;");
        }
    }

    // Terms: "then small letters and digits"
    private static void nameGoesOnWithLettersAndDigits() {
        for (int c = 33; c < 256; c++) {
            boolean inName = c >= 'a' && c <= 'z' || c >= '0' && c <= '9';
            boolean sign = ":;,>=".indexOf(c) >= 0;
            if (inName) {
                Expect.fine("class a" + (char) c + ";", 1);
            } else if (c == '#') {
                Expect.faulty(2, 9, "class a#;");
            } else if (!sign) {
                Expect.faulty(1, 7, "class a" + (char) c + ";");
            }
        }
        Expect.fine("class a,b;", 1);
        Expect.faulty(2, 7, "class a:;");
    }

    // Terms: "the longest that fit": names stand apart where something else stands between them.
    private static void nameIsTheLongest() {
        Expect.fine("class classa,ab,a,b,a1,a10,a1b;", 1);
        Expect.faulty(2, 0, "classa;");
        Expect.faulty(2, 0, "class1;");
        Expect.faulty(4, 9, "class ab,ab;");
        Expect.faulty(5, 15, "class ab;stall a;");
        Expect.faulty(5, 15, "class a; stall ab;");
        Expect.faulty(5, 15, "class a; stall a0;");
    }

    // Terms: "up to 12"
    private static void nameHasUpTo12() {
        Expect.fine("class abcdefghijkl;", 1);
        Expect.fine("class a00000000000;", 1);
        Expect.fine("class z99999999999;", 1);
        Expect.faulty(1, 6, "class abcdefghijklm;");
        Expect.faulty(1, 6, "class a000000000000;");
        Expect.faulty(1, 6, "class abcdefghijkl0;");
        Expect.faulty(2, 19, "class abcdefghijkl m;");
        String name = "x1y2z3abcdef";
        CoreText x = Expect.read("class " + name + "; stall " + name + ";");
        Expect.same("a name of 12 is found again", x.ofClass(0, 2), 1);
        Expect.same("a name of 12 is printed", Expect.printed(x),
                "class " + name + ";\nlatency " + name + " = 1;\nstall " + name + ";\n");
    }

    // Terms: "up to 12": all twelve tell names apart, and so does their number.
    private static void namesOf12DifferInEachCharacter() {
        String name = "mmmmmmmmmmmm";
        for (int i = 0; i < 12; i++) {
            for (char c : new char[] {'a', 'l', 'n', 'z', '0', '9'}) {
                if (i > 0 || c > '9') {
                    String other = name.substring(0, i) + c + name.substring(i + 1);
                    Expect.fine("class " + name + "," + other + ";", 1);
                    Expect.faulty(5, 26, "class " + name + "; stall " + other + ";");
                }
            }
            if (i > 0) {
                Expect.fine("class " + name + "," + name.substring(i) + ";", 1);
                Expect.faulty(5, 26, "class " + name + "; stall " + name.substring(i) + ";");
            }
        }
        Expect.fine("class a,aa,aaa,aaaa,a0,a00,a000,z,zz,z9,z99,zzz;", 1);
    }

    // Terms: "NUMBERS (digits, the longest)"
    private static void numberIsTheLongest() {
        Expect.same("a digit", Expect.read("queue q=7;").queue(0, 0), 7);
        Expect.same("two digits", Expect.read("queue q=10;").queue(0, 0), 10);
        Expect.same("three digits", Expect.read("queue q=909;").queue(0, 0), 909);
        Expect.same("a name behind", Expect.read("stage s; queue q=12in s;").queue(0, 0), 12);
        String zeros = "0".repeat(4000);
        Expect.same("zeros in front", Expect.read("queue q=" + zeros + "12;").queue(0, 0), 12);
        Expect.faulty(2, 12, "queue q = 1 2;");
        Expect.faulty(2, 11, "queue q = 1a;");
        Expect.faulty(2, 10, "queue q = a1;");
        Expect.faulty(2, 0, "0");
    }

    // Terms: "NUMBERS (digits, the longest)": a number of many digits stays as large as it is.
    private static void numberWrapsNowhere() {
        String[] wrapping = {"65537", "2147483648", "4294967296", "4294967297", "8589934593",
            "18446744073709551616", "18446744073709551617", "18446744073709551715",
            "340282366920938463463374607431768211457", "1" + "0".repeat(64), "9".repeat(4000)};
        for (String number : wrapping) {
            Expect.faulty(8, 21, "class a; latency a = " + number + ";");
            Expect.faulty(8, 10, "queue q = " + number + ";");
        }
        Expect.faulty(8, 21, "class a; latency a = 257;");
    }

    // Terms: "SIGNS : ; , > ="
    private static void signsAreFive() {
        Expect.fine("class a,b;stage s;latency a=1;result a>s;port p:a;", 5);
        for (char c = 33; c < 127; c++) {
            boolean letter = c >= 'a' && c <= 'z';
            boolean digit = c >= '0' && c <= '9';
            if (":;,>=".indexOf(c) >= 0) {
                Expect.faulty(2, 0, "" + c);
            } else if (!letter && !digit && c != '#') {
                Expect.faulty(1, 0, "" + c);
            }
        }
        Expect.faulty(2, 25, "stage s; stage t; path s>>t;");
    }

    // Terms: "where a NAME is wanted they don't fit (2)."
    private static void wordsAreNoNames() {
        String start = "class a; stage s; ";
        String[] wanting = {"class ", "class b,", "stage ", "latency ", "result ", "result a > ",
            "path ", "path s > ", "stall ", "stall a,", "queue ", "queue q=1 in ", "port ",
            "port p:", "port p:a,"};
        for (String piece : wanting) {
            for (String word : WORDS) {
                Expect.faultBehind(start, 2, piece.length(), piece + word + ";");
            }
        }
    }

    // Terms: "WORDS are the names class stage does latency result path stall queue in port, and the
    // TASKS fetch decode read execute memory write commit": longer or shorter names are none.
    private static void wordsAreWholeNames() {
        for (String word : WORDS) {
            Expect.fine("class " + word + "s;", 1);
            Expect.fine("class " + word + "0;", 1);
            Expect.fine("class x" + word + ";", 1);
            Expect.fine("class " + word.substring(1) + ";", 1);
            Expect.fine("class " + word.substring(0, word.length() - 1) + ";", 1);
        }
    }
}
