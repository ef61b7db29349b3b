import java.nio.charset.StandardCharsets;

/** What all tests share: expectations that are counted, and texts that are fed and taken out. */
final class Expect {
    interface Call {
        long answer();
    }

    private static int passed = 0;
    private static int failed = 0;

    private Expect() {
    }

    static void same(String what, long got, long want) {
        note(got == want, what + " answered " + got + ", due is " + want);
    }

    static void same(String what, String got, String want) {
        note(got.equals(want), what + " answered\n" + got + "\ndue is\n" + want);
    }

    static void thrown(String what, Class<? extends RuntimeException> want, Call call) {
        try {
            long got = call.answer();
            note(false, what + " answered " + got + ", due is " + want.getSimpleName());
        } catch (RuntimeException e) {
            note(e.getClass() == want, what + " threw " + e + ", due is " + want.getSimpleName());
        }
    }

    static void outside(String what, Call call) {
        thrown(what, IndexOutOfBoundsException.class, call);
    }

    private static void note(boolean fine, String told) {
        if (fine) {
            passed++;
        } else {
            failed++;
            System.out.println("wrong: " + told);
        }
    }

    /** Ends a test's main method: with exit code 1 if something was wrong. */
    static void finish() {
        System.out.println(passed + " passed, " + failed + " failed");
        if (failed != 0 || passed == 0) {
            System.exit(1);
        }
    }

    static void feed(CoreText x, String text) {
        byte[] bytes = text.getBytes(StandardCharsets.ISO_8859_1);
        for (int i = 0; i < bytes.length; i += 16) {
            x.feed(four(bytes, i), four(bytes, i + 4), four(bytes, i + 8), four(bytes, i + 12));
        }
        if (bytes.length % 16 != 0) {
            x.end(bytes.length % 16);
        }
    }

    private static int four(byte[] bytes, int from) {
        int all = 0;
        for (int i = from; i < from + 4; i++) {
            all = all << 8 | (i < bytes.length ? bytes[i] & 255 : 0);
        }
        return all;
    }

    static CoreText read(String text) {
        CoreText x = new CoreText();
        feed(x, text);
        x.read();
        return x;
    }

    /** A text without a fault. */
    static void fine(String text, int statements) {
        CoreText x = new CoreText();
        feed(x, text);
        same("read of " + text, x.read(), statements);
        same("statements of " + text, x.count(6), statements);
        same("no fault of " + text, x.fault(0), 0);
        same("no place of " + text, x.fault(1), 0);
    }

    static void faulty(int number, int place, String text) {
        CoreText x = new CoreText();
        feed(x, text);
        thrown("read of " + text, IllegalArgumentException.class, x::read);
        same("fault of " + text, x.fault(0), number);
        same("place of " + text, x.fault(1), place);
        same("nothing is read of " + text, counts(x), "0 0 0 0 0 0 0 0 0");
    }

    /** A fault in the piece behind a start that is fine. */
    static void faultBehind(String start, int number, int place, String piece) {
        faulty(number, start.length() + place, start + piece);
    }

    /** A call that throws, and changes nothing of what can be seen. */
    static void refused(String what, CoreText x, Class<? extends RuntimeException> want,
            Call call) {
        String before = state(x);
        thrown(what, want, call);
        same("what is there behind " + what, state(x), before);
    }

    /** A text that has no room for sixteen more, and stays as it is. */
    static void refusedFeed(CoreText x, int size) {
        thrown("feed at " + size, IllegalStateException.class, () -> x.feed(0, 0, 0, 0));
        same("the text behind a feed that was refused", x.count(0), size);
    }

    /** All that can be seen of an object, the printed bytes too. */
    static String state(CoreText x) {
        StringBuilder all = new StringBuilder(counts(x));
        all.append("; fault ").append(x.fault(0)).append(" at ").append(x.fault(1));
        all.append("; errors ").append(errors(x)).append("; remarks ").append(remarks(x));
        all.append("; core ").append(core(x)).append("; ").append(lastPrinted(x));
        return all.toString();
    }

    /** What was read, as numbers. */
    static String core(CoreText x) {
        StringBuilder all = new StringBuilder();
        int classes = x.count(1);
        int ports = x.count(5);
        for (int what = 1; what <= 6; what++) {
            all.append(x.count(what)).append(' ');
        }
        for (int k = 0; k < classes; k++) {
            all.append("c ");
            for (int what = 0; what < 4; what++) {
                all.append(x.ofClass(k, what)).append(' ');
            }
        }
        for (int t = 0; t < 7; t++) {
            all.append("t ").append(x.task(t)).append(' ');
        }
        for (int k = 0, paths = x.count(3); k < paths; k++) {
            all.append("p ").append(x.path(k, 0)).append(' ').append(x.path(k, 1)).append(' ');
        }
        for (int k = 0, queues = x.count(4); k < queues; k++) {
            all.append("q ").append(x.queue(k, 0)).append(' ').append(x.queue(k, 1)).append(' ');
        }
        for (int k = 0; k < ports; k++) {
            for (int c = 0; c < classes; c++) {
                all.append(x.port(k, c) ? '+' : '-');
            }
        }
        return all.toString();
    }

    static String printed(CoreText x) {
        x.print();
        return lastPrinted(x);
    }

    static String lastPrinted(CoreText x) {
        StringBuilder all = new StringBuilder();
        for (int i = 0, size = x.count(8); i < size; i++) {
            all.append((char) x.out(i));
        }
        return all.toString();
    }

    /** Findings as "number:teller number:teller ..". */
    static String errors(CoreText x) {
        StringBuilder all = new StringBuilder();
        for (int k = 0; k < x.errors(); k++) {
            all.append(k == 0 ? "" : " ").append(x.error(k, 0)).append(':').append(x.error(k, 1));
        }
        return all.toString();
    }

    static String remarks(CoreText x) {
        StringBuilder all = new StringBuilder();
        for (int k = 0; k < x.count(7); k++) {
            all.append(k == 0 ? "" : " ").append(x.remark(k, 0)).append(':').append(x.remark(k, 1));
        }
        return all.toString();
    }

    static String counts(CoreText x) {
        StringBuilder all = new StringBuilder();
        for (int what = 0; what <= 8; what++) {
            all.append(what == 0 ? "" : " ").append(x.count(what));
        }
        return all.toString();
    }

    /** "prefix0, prefix1, ..", names of exactly twelve characters where the prefix has ten. */
    static String names(String prefix, int howMany) {
        StringBuilder all = new StringBuilder();
        for (int i = 0; i < howMany; i++) {
            all.append(i == 0 ? "" : ",").append(name(prefix, i));
        }
        return all.toString();
    }

    static String name(String prefix, int i) {
        return prefix + (char) ('a' + i / 10) + i % 10;
    }
}
