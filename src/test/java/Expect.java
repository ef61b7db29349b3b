import java.nio.charset.StandardCharsets;

/** What all tests share: expectations that are counted, and texts that are fed and taken out. */
final class Expect {
    interface Call {
        long answer();
    }

    private static int passed = 0;
    private static int failed = 0;

    private Expect() {
    }

    static void same(String what, long got, long want) {
        note(got == want, what + " answered " + got + ", due is " + want);
    }

    static void same(String what, String got, String want) {
        note(got.equals(want), what + " answered\n" + got + "\ndue is\n" + want);
    }

    static void thrown(String what, Class<? extends RuntimeException> want, Call call) {
        try {
            long got = call.answer();
            note(false, what + " answered " + got + ", due is " + want.getSimpleName());
        } catch (RuntimeException e) {
            note(e.getClass() == want, what + " threw " + e + ", due is " + want.getSimpleName());
        }
    }

    static void outside(String what, Call call) {
        thrown(what, IndexOutOfBoundsException.class, call);
    }

    private static void note(boolean fine, String told) {
        if (fine) {
            passed++;
        } else {
            failed++;
            System.out.println("wrong: " + told);
        }
    }

    /** Ends a test's main method: with exit code 1 if something was wrong. */
    static void finish() {
        System.out.println(passed + " passed, " + failed + " failed");
        if (failed != 0 || passed == 0) {
            System.exit(1);
        }
    }

    static void feed(CoreText x, String text) {
        byte[] bytes = text.getBytes(StandardCharsets.ISO_8859_1);
        for (int i = 0; i < bytes.length; i += 16) {
            x.feed(four(bytes, i), four(bytes, i + 4), four(bytes, i + 8), four(bytes, i + 12));
        }
        if (bytes.length % 16 != 0) {
            x.end(bytes.length % 16);
        }
    }

    private static int four(byte[] bytes, int from) {
        int all = 0;
        for (int i = from; i < from + 4; i++) {
            all = all << 8 | (i < bytes.length ? bytes[i] & 255 : 0);
        }
        return all;
    }

    static CoreText read(String text) {
        CoreText x = new CoreText();
        feed(x, text);
        x.read();
        return x;
    }

    static String printed(CoreText x) {
        int size = x.print();
        StringBuilder all = new StringBuilder();
        for (int i = 0; i < size; i++) {
            all.append((char) x.out(i));
        }
        return all.toString();
    }

    /** Findings as "number:teller number:teller ..". */
    static String errors(CoreText x) {
        StringBuilder all = new StringBuilder();
        for (int k = 0; k < x.errors(); k++) {
            all.append(k == 0 ? "" : " ").append(x.error(k, 0)).append(':').append(x.error(k, 1));
        }
        return all.toString();
    }

    static String remarks(CoreText x) {
        StringBuilder all = new StringBuilder();
        for (int k = 0; k < x.count(7); k++) {
            all.append(k == 0 ? "" : " ").append(x.remark(k, 0)).append(':').append(x.remark(k, 1));
        }
        return all.toString();
    }

    static String counts(CoreText x) {
        StringBuilder all = new StringBuilder();
        for (int what = 0; what <= 8; what++) {
            all.append(what == 0 ? "" : " ").append(x.count(what));
        }
        return all.toString();
    }

    /** "prefix0, prefix1, ..", names of exactly twelve characters where the prefix has ten. */
    static String names(String prefix, int howMany) {
        StringBuilder all = new StringBuilder();
        for (int i = 0; i < howMany; i++) {
            all.append(i == 0 ? "" : ",").append(name(prefix, i));
        }
        return all.toString();
    }

    static String name(String prefix, int i) {
        return prefix + (char) ('a' + i / 10) + i % 10;
    }
}
