/** The core that has as much of everything as there may be, with the longest names. */
final class Largest {
    static final String CLASS = "class89abc";
    static final String STAGE = "stage89abc";
    static final String QUEUE = "queue89abc";
    static final String PORT = "port789abc";
    private static final String[] TASKS =
            {"fetch", "decode", "read", "execute", "memory", "write", "commit"};

    private Largest() {
    }

    /** Written as tight as the grammar lets, so that it can be fed. */
    static String text() {
        return classes(12) + stages(12) + traits() + paths(24) + queues(8) + ports(8);
    }

    static String classes(int howMany) {
        return "class " + Expect.names(CLASS, howMany) + ";";
    }

    static String stages(int howMany) {
        StringBuilder all = new StringBuilder();
        for (int i = 0; i < howMany; i++) {
            all.append("stage ").append(Expect.name(STAGE, i));
            all.append(i < TASKS.length ? " does " + TASKS[i] : "").append(';');
        }
        return all.toString();
    }

    private static String traits() {
        StringBuilder all = new StringBuilder("stall " + Expect.names(CLASS, 12) + ";");
        for (int i = 0; i < 12; i++) {
            all.append("latency ").append(Expect.name(CLASS, i)).append("=99;");
            all.append("result ").append(Expect.name(CLASS, i)).append('>');
            all.append(Expect.name(STAGE, i)).append(';');
        }
        return all.toString();
    }

    static String paths(int howMany) {
        StringBuilder all = new StringBuilder();
        for (int i = 0; i < howMany; i++) {
            all.append("path ").append(Expect.name(STAGE, i % 12)).append('>');
            all.append(Expect.name(STAGE, i / 12)).append(';');
        }
        return all.toString();
    }

    static String queues(int howMany) {
        StringBuilder all = new StringBuilder();
        for (int i = 0; i < howMany; i++) {
            all.append("queue ").append(Expect.name(QUEUE, i)).append("=999 in ");
            all.append(Expect.name(STAGE, i)).append(';');
        }
        return all.toString();
    }

    static String ports(int howMany) {
        StringBuilder all = new StringBuilder();
        for (int i = 0; i < howMany; i++) {
            all.append("port ").append(Expect.name(PORT, i)).append(':');
            all.append(Expect.names(CLASS, 12)).append(';');
        }
        return all.toString();
    }
}
