/**
 * Texts of cores: fed as bytes, read into classes, stages, paths, queues and ports, checked for
 * what is missing and what is not used, and printed again.
 */
public final class CoreText {
    /** Nothing there. */
    public static final int NONE = -1;

    private static final int MOST_FED = 4096;
    private static final int PORTION = 16;

    private final Bytes text;
    private final Bytes printed;
    private final Core core;
    private final Reader reader;
    private final Printer printer;
    private final Findings errors;
    private final Findings remarks;

    public CoreText() {
        text = new Bytes();
        printed = new Bytes();
        core = new Core();
        reader = new Reader(text, core);
        printer = new Printer(core, printed);
        errors = new Findings(Checker.MOST_ERRORS);
        remarks = new Findings(Checker.MOST_REMARKS);
        Checker.findErrors(core, errors);
    }

    public int feed(int a, int b, int c, int d) throws IllegalStateException {
        if (text.size() + PORTION > MOST_FED) {
            throw new IllegalStateException("the text would be too long");
        }
        text.addFour(a);
        text.addFour(b);
        text.addFour(c);
        text.addFour(d);
        return text.size();
    }

    public int end(int n) throws IllegalArgumentException, IllegalStateException {
        if (n < 0 || n > PORTION) {
            throw new IllegalArgumentException("not 0 .. 16");
        }
        if (text.size() < PORTION) {
            throw new IllegalStateException("there are less than sixteen bytes");
        }
        text.drop(PORTION - n);
        return text.size();
    }

    public int read() throws IllegalArgumentException {
        reader.readText();
        text.clear();
        Checker.findErrors(core, errors);
        Checker.findRemarks(core, remarks);
        if (reader.faultNumber() != Reader.FINE) {
            throw new IllegalArgumentException("the text has a fault");
        }
        return core.statements();
    }

    public int fault(int what) throws IndexOutOfBoundsException {
        switch (what) {
            case 0:
                return reader.faultNumber();
            case 1:
                return reader.faultPlace();
            default:
                throw new IndexOutOfBoundsException("no such what");
        }
    }

    public int ofClass(int k, int what) throws IndexOutOfBoundsException {
        mustBeInside(k, core.classes.size());
        switch (what) {
            case 0:
                return core.latencyOf(k);
            case 1:
                return core.results.get(k);
            case 2:
                return core.stalls.get(k);
            case 3:
                return core.portsWith(k);
            default:
                throw new IndexOutOfBoundsException("no such what");
        }
    }

    public int task(int task) throws IndexOutOfBoundsException {
        mustBeInside(task, Core.TASKS);
        return core.doers.get(task);
    }

    public int path(int k, int what) throws IndexOutOfBoundsException {
        mustBeInside(k, core.paths());
        mustBeInside(what, 2);
        return what == 0 ? core.pathStarts.get(k) : core.pathEnds.get(k);
    }

    public int queue(int k, int what) throws IndexOutOfBoundsException {
        mustBeInside(k, core.queues.size());
        mustBeInside(what, 2);
        return what == 0 ? core.queueSizes.get(k) : core.queueStages.get(k);
    }

    public boolean port(int k, int cls) throws IndexOutOfBoundsException {
        mustBeInside(k, core.ports.size());
        mustBeInside(cls, core.classes.size());
        return core.portHas(k, cls);
    }

    public int errors() {
        return errors.size();
    }

    public int error(int k, int what) throws IndexOutOfBoundsException {
        return partOfFinding(errors, k, what);
    }

    public int remark(int k, int what) throws IndexOutOfBoundsException {
        return partOfFinding(remarks, k, what);
    }

    public int print() {
        printer.printCore();
        return printed.size();
    }

    public int out(int i) throws IndexOutOfBoundsException {
        mustBeInside(i, printed.size());
        return printed.at(i);
    }

    public int again() {
        text.copyFrom(printed);
        return text.size();
    }

    public int count(int what) {
        switch (what) {
            case 0:
                return text.size();
            case 1:
                return core.classes.size();
            case 2:
                return core.stages.size();
            case 3:
                return core.paths();
            case 4:
                return core.queues.size();
            case 5:
                return core.ports.size();
            case 6:
                return core.statements();
            case 7:
                return remarks.size();
            case 8:
                return printed.size();
            default:
                return NONE;
        }
    }

    private static int partOfFinding(Findings findings, int k, int what) {
        mustBeInside(k, findings.size());
        mustBeInside(what, 2);
        return what == 0 ? findings.numberOf(k) : findings.tellerOf(k);
    }

    private static void mustBeInside(int i, int size) {
        if (i < 0 || i >= size) {
            throw new IndexOutOfBoundsException("nothing is there");
        }
    }

    /** Bytes one behind the other: the text, or what was printed. */
    private static final class Bytes {
        // The largest core prints 4147 bytes, and again() makes them the text.
        private static final int MOST = 4160;

        private final byte[] row;
        private int size;

        Bytes() {
            row = new byte[MOST];
            size = 0;
        }

        int size() {
            return size;
        }

        /** The byte at i as 0 .. 255, or NONE outside. */
        int at(int i) {
            return i >= 0 && i < size ? row[i] & 255 : NONE;
        }

        void clear() {
            size = 0;
        }

        void add(int value) {
            if (size < MOST) {
                row[size] = (byte) value;
                size++;
            }
        }

        /** Adds the four bytes of a number, the highest first. */
        void addFour(int bytes) {
            for (int shift = 24; shift >= 0; shift -= 8) {
                add(bytes >>> shift);
            }
        }

        void addText(String words) {
            for (int i = 0; i < words.length(); i++) {
                add(words.charAt(i));
            }
        }

        void drop(int howMany) {
            if (howMany >= 0 && howMany <= size) {
                size -= howMany;
            }
        }

        void copyFrom(Bytes other) {
            System.arraycopy(other.row, 0, row, 0, other.size);
            size = other.size;
        }
    }

    /** Numbers by index, each of them the empty one until it is set; no index is wrong. */
    private static final class Row {
        private final int[] cells;
        private final int empty;

        Row(int length, int empty) {
            this.cells = new int[length > 0 ? length : 0];
            this.empty = empty;
            clear();
        }

        void clear() {
            for (int i = 0; i < cells.length; i++) {
                cells[i] = empty;
            }
        }

        int get(int i) {
            return i >= 0 && i < cells.length ? cells[i] : empty;
        }

        void set(int i, int value) {
            if (i >= 0 && i < cells.length) {
                cells[i] = value;
            }
        }
    }

    /**
     * Names of one sort in the order in which they were told. A name is held as one number, its
     * key, so that reading makes no objects: twelve characters in base 37 just fit a long.
     */
    private static final class Names {
        static final int LONGEST = 12;
        static final int BASE = 37;
        // What the first of twelve characters counts: the eleventh power of the base.
        static final long HIGHEST = 177917621779460413L;
        private static final int LETTERS = 26;

        private final long[] keys;
        private int size;

        Names(int most) {
            keys = new long[most > 0 ? most : 0];
            size = 0;
        }

        /** 1 .. 36 for a small letter or a digit, 0 for what is in no name. */
        static int codeOf(int character) {
            if (isSmallLetter(character)) {
                return character - 'a' + 1;
            }
            return isDigit(character) ? character - '0' + LETTERS + 1 : 0;
        }

        static int characterOf(int code) {
            return code <= LETTERS ? code + 'a' - 1 : code + '0' - LETTERS - 1;
        }

        static boolean isSmallLetter(int character) {
            return character >= 'a' && character <= 'z';
        }

        static boolean isDigit(int character) {
            return character >= '0' && character <= '9';
        }

        static long keyOf(String name) {
            long key = 0;
            for (int i = 0; i < name.length(); i++) {
                key = key * BASE + codeOf(name.charAt(i));
            }
            return key;
        }

        int size() {
            return size;
        }

        boolean isFull() {
            return size >= keys.length;
        }

        void clear() {
            size = 0;
        }

        /** Adds a name where there is room: its index. */
        int add(long key) {
            if (size >= keys.length) {
                return NONE;
            }
            keys[size] = key;
            size++;
            return size - 1;
        }

        long keyAt(int i) {
            return i >= 0 && i < size ? keys[i] : 0;
        }

        /** The name's index, or NONE. */
        int find(long key) {
            for (int i = 0; i < size; i++) {
                if (keys[i] == key) {
                    return i;
                }
            }
            return NONE;
        }
    }

    /** The words of the language; each has a number that is also the kind of its lexeme. */
    private static final class Words {
        // Above all bytes, since a sign's kind is the sign itself.
        static final int FIRST = 256;
        static final int CLASS = 256;
        static final int STAGE = 257;
        static final int DOES = 258;
        static final int LATENCY = 259;
        static final int RESULT = 260;
        static final int PATH = 261;
        static final int STALL = 262;
        static final int QUEUE = 263;
        static final int IN = 264;
        static final int PORT = 265;
        // The tasks stand last, in the order of their numbers.
        static final int FIRST_TASK = 266;
        static final int ALL = 17;

        private final long[] keys;

        Words() {
            keys = new long[ALL];
            for (int i = 0; i < ALL; i++) {
                keys[i] = Names.keyOf(textOf(FIRST + i));
            }
        }

        static String textOf(int word) {
            switch (word) {
                case CLASS:
                    return "class";
                case STAGE:
                    return "stage";
                case DOES:
                    return "does";
                case LATENCY:
                    return "latency";
                case RESULT:
                    return "result";
                case PATH:
                    return "path";
                case STALL:
                    return "stall";
                case QUEUE:
                    return "queue";
                case IN:
                    return "in";
                case PORT:
                    return "port";
                default:
                    return textOfTask(word - FIRST_TASK);
            }
        }

        static String textOfTask(int number) {
            switch (number) {
                case Core.FETCH:
                    return "fetch";
                case Core.DECODE:
                    return "decode";
                case Core.READ:
                    return "read";
                case Core.EXECUTE:
                    return "execute";
                case Core.MEMORY:
                    return "memory";
                case Core.WRITE:
                    return "write";
                default:
                    return "commit";
            }
        }

        /** The word with this key, or NONE. */
        int find(long key) {
            for (int i = 0; i < ALL; i++) {
                if (keys[i] == key) {
                    return FIRST + i;
                }
            }
            return NONE;
        }
    }

    /** Takes lexeme by lexeme from the text; the fields tell of the one in hand. */
    private static final class Lexer {
        // Kinds; a sign's kind is the sign itself, a word's kind its number in Words.
        static final int BAD = 0;
        static final int END = 1;
        static final int NAME = 2;
        static final int NUMBER = 3;
        // Larger than every number that is allowed: digits behind it change nothing.
        private static final int LARGE = 1000;

        private final Bytes text;
        private final Words words;
        private int next;
        private int kind;
        private int place;
        private long key;
        private int number;

        Lexer(Bytes text) {
            this.text = text;
            this.words = new Words();
            begin();
        }

        void begin() {
            next = 0;
            place = 0;
            kind = BAD;
            key = 0;
            number = 0;
        }

        int kind() {
            return kind;
        }

        int place() {
            return place;
        }

        long key() {
            return key;
        }

        int number() {
            return number;
        }

        void advance() {
            skipWhite();
            place = next;
            int first = text.at(next);
            if (first == NONE) {
                kind = END;
            } else if (Names.isSmallLetter(first)) {
                takeName();
            } else if (Names.isDigit(first)) {
                takeNumber();
            } else {
                takeSign(first);
            }
        }

        private void skipWhite() {
            boolean comment = false;
            for (; next < text.size(); next++) {
                int here = text.at(next);
                if (here == '#') {
                    comment = true;
                } else if (here == '\n') {
                    comment = false;
                }
                if (!comment && !isBlank(here)) {
                    return;
                }
            }
        }

        private static boolean isBlank(int character) {
            return character == '\t' || character == '\n' || character == '\r' || character == ' ';
        }

        private void takeName() {
            key = 0;
            int code = Names.codeOf(text.at(next));
            for (; next < text.size() && code > 0; next++) {
                key = key * Names.BASE + code;
                code = Names.codeOf(text.at(next + 1));
            }
            if (next - place > Names.LONGEST) {
                kind = BAD;
                return;
            }
            int word = words.find(key);
            kind = word == NONE ? NAME : word;
        }

        private void takeNumber() {
            kind = NUMBER;
            number = 0;
            for (; next < text.size() && Names.isDigit(text.at(next)); next++) {
                if (number < LARGE) {
                    number = number * 10 + text.at(next) - '0';
                }
            }
        }

        private void takeSign(int first) {
            switch (first) {
                case ':':
                case ';':
                case ',':
                case '>':
                case '=':
                    kind = first;
                    next++;
                    break;
                default:
                    kind = BAD;
                    break;
            }
        }
    }

    /** What was read. */
    private static final class Core {
        static final int FETCH = 0;
        static final int DECODE = 1;
        static final int READ = 2;
        static final int EXECUTE = 3;
        static final int MEMORY = 4;
        static final int WRITE = 5;
        static final int COMMIT = 6;
        static final int TASKS = 7;
        static final int MOST_CLASSES = 12;
        static final int MOST_STAGES = 12;
        static final int MOST_QUEUES = 8;
        static final int MOST_PORTS = 8;
        static final int MOST_PATHS = 24;

        final Names classes;
        final Names stages;
        final Names queues;
        final Names ports;
        final Row latencies;
        final Row results;
        final Row stalls;
        final Row doers;
        final Row pathStarts;
        final Row pathEnds;
        final Row queueSizes;
        final Row queueStages;
        private final Row portSets;
        private int paths;
        private int statements;

        Core() {
            classes = new Names(MOST_CLASSES);
            stages = new Names(MOST_STAGES);
            queues = new Names(MOST_QUEUES);
            ports = new Names(MOST_PORTS);
            latencies = new Row(MOST_CLASSES, NONE);
            results = new Row(MOST_CLASSES, NONE);
            stalls = new Row(MOST_CLASSES, 0);
            doers = new Row(TASKS, NONE);
            pathStarts = new Row(MOST_PATHS, NONE);
            pathEnds = new Row(MOST_PATHS, NONE);
            queueSizes = new Row(MOST_QUEUES, NONE);
            queueStages = new Row(MOST_QUEUES, NONE);
            portSets = new Row(MOST_PORTS, 0);
            paths = 0;
            statements = 0;
        }

        void clear() {
            classes.clear();
            stages.clear();
            queues.clear();
            ports.clear();
            latencies.clear();
            results.clear();
            stalls.clear();
            doers.clear();
            pathStarts.clear();
            pathEnds.clear();
            queueSizes.clear();
            queueStages.clear();
            portSets.clear();
            paths = 0;
            statements = 0;
        }

        int statements() {
            return statements;
        }

        void addStatement() {
            statements++;
        }

        /** Whether a name of any sort is there: all sorts share their names. */
        boolean isTold(long key) {
            return classes.find(key) != NONE || stages.find(key) != NONE
                    || queues.find(key) != NONE || ports.find(key) != NONE;
        }

        int latencyOf(int cls) {
            int told = latencies.get(cls);
            return told == NONE ? 1 : told;
        }

        boolean stallsAt(int cls) {
            return stalls.get(cls) != 0;
        }

        boolean does(int stage, int number) {
            return doers.get(number) == stage;
        }

        int paths() {
            return paths;
        }

        boolean pathsAreFull() {
            return paths >= MOST_PATHS;
        }

        void addPath(int from, int to) {
            pathStarts.set(paths, from);
            pathEnds.set(paths, to);
            paths++;
        }

        boolean hasPath(int from, int to) {
            for (int i = 0; i < paths; i++) {
                if (pathStarts.get(i) == from && pathEnds.get(i) == to) {
                    return true;
                }
            }
            return false;
        }

        boolean portHas(int number, int cls) {
            return (portSets.get(number) >> cls & 1) != 0;
        }

        void addToPort(int number, int cls) {
            portSets.set(number, portSets.get(number) | 1 << cls);
        }

        int portsWith(int cls) {
            int found = 0;
            for (int i = 0; i < ports.size(); i++) {
                if (portHas(i, cls)) {
                    found++;
                }
            }
            return found;
        }

        boolean hasResultAt(int stage) {
            for (int i = 0; i < classes.size(); i++) {
                if (results.get(i) == stage) {
                    return true;
                }
            }
            return false;
        }

        boolean isIdle(int stage) {
            for (int i = 0; i < TASKS; i++) {
                if (does(stage, i)) {
                    return false;
                }
            }
            for (int i = 0; i < queues.size(); i++) {
                if (queueStages.get(i) == stage) {
                    return false;
                }
            }
            return true;
        }
    }

    /**
     * Reads the text into a core. Faults are told lexeme by lexeme, so it goes lexeme by lexeme
     * too: it knows the open statement and which part of it comes next, and every method that
     * takes a part answers the number of the lexeme's fault, the lowest first, or FINE.
     */
    private static final class Reader {
        static final int FINE = 0;
        private static final int NO_LEXEME = 1;
        private static final int DOES_NOT_FIT = 2;
        private static final int TOO_MANY = 3;
        private static final int THERE_ALREADY = 4;
        private static final int NOT_TOLD = 5;
        private static final int OTHER_SORT = 6;
        private static final int TWICE = 7;
        private static final int OUT_OF_RANGE = 8;
        private static final int MOST_LATENCY = 99;
        private static final int MOST_QUEUE_SIZE = 999;

        private final Bytes text;
        private final Core core;
        private final Lexer lexer;
        private int faultNumber;
        private int faultPlace;
        // The word that began the open statement, or NONE between statements.
        private int statement;
        private int nextPart;
        // What the open statement tells of, and the name that was found last.
        private int subject;
        private int found;

        Reader(Bytes text, Core core) {
            this.text = text;
            this.core = core;
            this.lexer = new Lexer(text);
            begin();
        }

        int faultNumber() {
            return faultNumber;
        }

        int faultPlace() {
            return faultPlace;
        }

        void readText() {
            core.clear();
            begin();
            // Every lexeme but the end has a byte at least.
            for (int n = 0; n <= text.size(); n++) {
                lexer.advance();
                if (lexer.kind() == Lexer.END && statement == NONE) {
                    return;
                }
                int number = takeLexeme();
                if (number != FINE) {
                    faultNumber = number;
                    faultPlace = lexer.place();
                    core.clear();
                    return;
                }
            }
        }

        private void begin() {
            lexer.begin();
            faultNumber = FINE;
            faultPlace = 0;
            statement = NONE;
            nextPart = 0;
            subject = NONE;
            found = NONE;
        }

        private int takeLexeme() {
            if (lexer.kind() == Lexer.BAD) {
                return NO_LEXEME;
            }
            int part = nextPart;
            nextPart = part + 1;
            switch (statement) {
                case Words.CLASS:
                    return partOfClass(part);
                case Words.STAGE:
                    return partOfStage(part);
                case Words.LATENCY:
                    return partOfLatency(part);
                case Words.RESULT:
                    return partOfResult(part);
                case Words.PATH:
                    return partOfPath(part);
                case Words.STALL:
                    return partOfStall(part);
                case Words.QUEUE:
                    return partOfQueue(part);
                case Words.PORT:
                    return partOfPort(part);
                default:
                    return openStatement();
            }
        }

        private int openStatement() {
            switch (lexer.kind()) {
                case Words.CLASS:
                case Words.STAGE:
                case Words.LATENCY:
                case Words.RESULT:
                case Words.PATH:
                case Words.STALL:
                case Words.QUEUE:
                case Words.PORT:
                    statement = lexer.kind();
                    nextPart = 0;
                    return FINE;
                default:
                    return DOES_NOT_FIT;
            }
        }

        // class NAME { , NAME } ;
        private int partOfClass(int part) {
            return part == 0 ? newName(core.classes) : commaOrClose(0);
        }

        // stage NAME [ does TASK { , TASK } ] ;
        private int partOfStage(int part) {
            switch (part) {
                case 0:
                    return newName(core.stages);
                case 1:
                    return wordOrClose(Words.DOES);
                case 2:
                    return newTask();
                default:
                    return commaOrClose(2);
            }
        }

        // latency CLASS = NUMBER ;
        private int partOfLatency(int part) {
            switch (part) {
                case 0:
                    return classWithout(core.latencies);
                case 1:
                    return sign('=');
                case 2:
                    return numberFor(core.latencies, MOST_LATENCY);
                default:
                    return close();
            }
        }

        // result CLASS > STAGE ;
        private int partOfResult(int part) {
            switch (part) {
                case 0:
                    return classWithout(core.results);
                case 1:
                    return sign('>');
                case 2:
                    return stageFor(core.results);
                default:
                    return close();
            }
        }

        // path STAGE > STAGE ;
        private int partOfPath(int part) {
            switch (part) {
                case 0:
                    return pathStart();
                case 1:
                    return sign('>');
                case 2:
                    return pathEnd();
                default:
                    return close();
            }
        }

        // stall CLASS { , CLASS } ;
        private int partOfStall(int part) {
            return part == 0 ? newStall() : commaOrClose(0);
        }

        // queue NAME = NUMBER [ in STAGE ] ;
        private int partOfQueue(int part) {
            switch (part) {
                case 0:
                    return newName(core.queues);
                case 1:
                    return sign('=');
                case 2:
                    return numberFor(core.queueSizes, MOST_QUEUE_SIZE);
                case 3:
                    return wordOrClose(Words.IN);
                case 4:
                    return stageFor(core.queueStages);
                default:
                    return close();
            }
        }

        // port NAME : CLASS { , CLASS } ;
        private int partOfPort(int part) {
            switch (part) {
                case 0:
                    return newName(core.ports);
                case 1:
                    return sign(':');
                case 2:
                    return newPortClass();
                default:
                    return commaOrClose(2);
            }
        }

        private int sign(int wanted) {
            return lexer.kind() == wanted ? FINE : DOES_NOT_FIT;
        }

        private int close() {
            if (lexer.kind() != ';') {
                return DOES_NOT_FIT;
            }
            core.addStatement();
            statement = NONE;
            return FINE;
        }

        /** A comma leads back to an earlier part, for one more of a list. */
        private int commaOrClose(int earlierPart) {
            if (lexer.kind() != ',') {
                return close();
            }
            nextPart = earlierPart;
            return FINE;
        }

        private int wordOrClose(int word) {
            return lexer.kind() == word ? FINE : close();
        }

        private int newName(Names sort) {
            if (lexer.kind() != Lexer.NAME) {
                return DOES_NOT_FIT;
            }
            if (sort.isFull()) {
                return TOO_MANY;
            }
            if (core.isTold(lexer.key())) {
                return THERE_ALREADY;
            }
            subject = sort.add(lexer.key());
            return FINE;
        }

        private int oldName(Names sort) {
            if (lexer.kind() != Lexer.NAME) {
                return DOES_NOT_FIT;
            }
            found = sort.find(lexer.key());
            if (found != NONE) {
                return FINE;
            }
            return core.isTold(lexer.key()) ? OTHER_SORT : NOT_TOLD;
        }

        private int newTask() {
            int number = lexer.kind() - Words.FIRST_TASK;
            if (number < 0 || number >= Core.TASKS) {
                return DOES_NOT_FIT;
            }
            if (core.doers.get(number) != NONE) {
                return TWICE;
            }
            core.doers.set(number, subject);
            return FINE;
        }

        private int classWithout(Row told) {
            int number = oldName(core.classes);
            if (number != FINE) {
                return number;
            }
            subject = found;
            return told.get(subject) == NONE ? FINE : TWICE;
        }

        private int numberFor(Row row, int most) {
            if (lexer.kind() != Lexer.NUMBER) {
                return DOES_NOT_FIT;
            }
            if (lexer.number() < 1 || lexer.number() > most) {
                return OUT_OF_RANGE;
            }
            row.set(subject, lexer.number());
            return FINE;
        }

        private int stageFor(Row row) {
            int number = oldName(core.stages);
            if (number == FINE) {
                row.set(subject, found);
            }
            return number;
        }

        private int pathStart() {
            int number = oldName(core.stages);
            subject = found;
            return number;
        }

        private int pathEnd() {
            // One path too many comes before what its name may have: the lower number is told.
            if (lexer.kind() == Lexer.NAME && core.pathsAreFull()) {
                return TOO_MANY;
            }
            int number = oldName(core.stages);
            if (number != FINE) {
                return number;
            }
            if (core.hasPath(subject, found)) {
                return TWICE;
            }
            core.addPath(subject, found);
            return FINE;
        }

        private int newStall() {
            int number = oldName(core.classes);
            if (number != FINE) {
                return number;
            }
            if (core.stallsAt(found)) {
                return TWICE;
            }
            core.stalls.set(found, 1);
            return FINE;
        }

        private int newPortClass() {
            int number = oldName(core.classes);
            if (number != FINE) {
                return number;
            }
            if (core.portHas(subject, found)) {
                return TWICE;
            }
            core.addToPort(subject, found);
            return FINE;
        }
    }

    /** Errors or remarks, each with its number and what tells it. */
    private static final class Findings {
        private final Row numbers;
        private final Row tellers;
        private int size;

        Findings(int most) {
            numbers = new Row(most, NONE);
            tellers = new Row(most, NONE);
            size = 0;
        }

        int size() {
            return size;
        }

        void clear() {
            size = 0;
        }

        void add(int number, int teller) {
            numbers.set(size, number);
            tellers.set(size, teller);
            size++;
        }

        int numberOf(int k) {
            return numbers.get(k);
        }

        int tellerOf(int k) {
            return tellers.get(k);
        }
    }

    /** Finds what is missing in a core, and what is not used. */
    private static final class Checker {
        // Four tasks, and each class with each of four errors.
        static final int MOST_ERRORS = 4 + 4 * Core.MOST_CLASSES;
        static final int MOST_REMARKS = Core.MOST_QUEUES + 2 * Core.MOST_PATHS + Core.MOST_STAGES;

        private static final int NO_STAGE_DOES = 1;
        private static final int NO_RESULT = 2;
        private static final int NO_PORT = 3;
        private static final int RESULT_TOO_EARLY = 4;
        private static final int NO_PATH = 5;

        private static final int QUEUE_IN_NO_STAGE = 1;
        private static final int PATH_OF_NO_USE = 2;
        private static final int IDLE_STAGE = 3;
        private static final int PATH_FORWARD = 4;

        private Checker() {
        }

        static void findErrors(Core core, Findings errors) {
            errors.clear();
            wantTask(core, errors, Core.FETCH);
            wantTask(core, errors, Core.READ);
            wantTask(core, errors, Core.EXECUTE);
            wantTask(core, errors, Core.COMMIT);
            for (int number = NO_RESULT; number <= NO_PATH; number++) {
                for (int cls = 0; cls < core.classes.size(); cls++) {
                    if (classHasError(core, number, cls)) {
                        errors.add(number, cls);
                    }
                }
            }
        }

        private static void wantTask(Core core, Findings errors, int number) {
            if (core.doers.get(number) == NONE) {
                errors.add(NO_STAGE_DOES, number);
            }
        }

        private static boolean classHasError(Core core, int number, int cls) {
            switch (number) {
                case NO_RESULT:
                    return core.results.get(cls) == NONE;
                case NO_PORT:
                    return core.portsWith(cls) == 0;
                case RESULT_TOO_EARLY:
                    return hasEarlyResult(core, cls);
                default:
                    return lacksPath(core, cls);
            }
        }

        private static boolean hasEarlyResult(Core core, int cls) {
            int result = core.results.get(cls);
            int executes = core.doers.get(Core.EXECUTE);
            return result != NONE && executes != NONE && result < executes;
        }

        private static boolean lacksPath(Core core, int cls) {
            int result = core.results.get(cls);
            int reads = core.doers.get(Core.READ);
            int executes = core.doers.get(Core.EXECUTE);
            return result != NONE && !core.stallsAt(cls) && reads != NONE && executes != NONE
                    && !core.hasPath(result, executes);
        }

        static void findRemarks(Core core, Findings remarks) {
            remarks.clear();
            for (int i = 0; i < core.queues.size(); i++) {
                if (core.queueStages.get(i) == NONE) {
                    remarks.add(QUEUE_IN_NO_STAGE, i);
                }
            }
            for (int i = 0; i < core.paths(); i++) {
                if (!core.hasResultAt(core.pathStarts.get(i))) {
                    remarks.add(PATH_OF_NO_USE, i);
                }
            }
            for (int i = 0; i < core.stages.size(); i++) {
                if (core.isIdle(i)) {
                    remarks.add(IDLE_STAGE, i);
                }
            }
            for (int i = 0; i < core.paths(); i++) {
                if (core.pathEnds.get(i) > core.pathStarts.get(i)) {
                    remarks.add(PATH_FORWARD, i);
                }
            }
        }
    }

    /** Prints a core as a text that reads to the same core. */
    private static final class Printer {
        private final Core core;
        private final Bytes bytes;

        Printer(Core core, Bytes bytes) {
            this.core = core;
            this.bytes = bytes;
        }

        void printCore() {
            bytes.clear();
            addClasses();
            for (int i = 0; i < core.stages.size(); i++) {
                addStage(i);
            }
            for (int i = 0; i < core.classes.size(); i++) {
                addTraits(i);
            }
            for (int i = 0; i < core.paths(); i++) {
                addPath(i);
            }
            for (int i = 0; i < core.queues.size(); i++) {
                addQueue(i);
            }
            for (int i = 0; i < core.ports.size(); i++) {
                addPort(i);
            }
        }

        private void addClasses() {
            for (int i = 0; i < core.classes.size(); i++) {
                bytes.addText(i == 0 ? "class " : ", ");
                addName(core.classes, i);
            }
            if (core.classes.size() > 0) {
                endLine();
            }
        }

        private void addStage(int stage) {
            bytes.addText("stage ");
            addName(core.stages, stage);
            boolean first = true;
            for (int i = 0; i < Core.TASKS; i++) {
                if (core.does(stage, i)) {
                    bytes.addText(first ? " does " : ", ");
                    bytes.addText(Words.textOfTask(i));
                    first = false;
                }
            }
            endLine();
        }

        private void addTraits(int cls) {
            bytes.addText("latency ");
            addName(core.classes, cls);
            bytes.addText(" = ");
            addNumber(core.latencyOf(cls));
            endLine();
            if (core.results.get(cls) != NONE) {
                bytes.addText("result ");
                addName(core.classes, cls);
                bytes.addText(" > ");
                addName(core.stages, core.results.get(cls));
                endLine();
            }
            if (core.stallsAt(cls)) {
                bytes.addText("stall ");
                addName(core.classes, cls);
                endLine();
            }
        }

        private void addPath(int k) {
            bytes.addText("path ");
            addName(core.stages, core.pathStarts.get(k));
            bytes.addText(" > ");
            addName(core.stages, core.pathEnds.get(k));
            endLine();
        }

        private void addQueue(int k) {
            bytes.addText("queue ");
            addName(core.queues, k);
            bytes.addText(" = ");
            addNumber(core.queueSizes.get(k));
            if (core.queueStages.get(k) != NONE) {
                bytes.addText(" in ");
                addName(core.stages, core.queueStages.get(k));
            }
            endLine();
        }

        private void addPort(int k) {
            bytes.addText("port ");
            addName(core.ports, k);
            boolean first = true;
            for (int i = 0; i < core.classes.size(); i++) {
                if (core.portHas(k, i)) {
                    bytes.addText(first ? " : " : ", ");
                    addName(core.classes, i);
                    first = false;
                }
            }
            endLine();
        }

        private void addName(Names names, int i) {
            long rest = names.keyAt(i);
            for (int n = 0; n < Names.LONGEST; n++) {
                int code = (int) (rest / Names.HIGHEST);
                // A shorter name has zeros in front, and none behind its first character.
                if (code > 0) {
                    bytes.add(Names.characterOf(code));
                }
                rest = rest % Names.HIGHEST * Names.BASE;
            }
        }

        /** Adds a number of up to three digits. */
        private void addNumber(int number) {
            if (number >= 100) {
                bytes.add('0' + number / 100);
            }
            if (number >= 10) {
                bytes.add('0' + number / 10 % 10);
            }
            bytes.add('0' + number % 10);
        }

        private void endLine() {
            bytes.addText(";\n");
        }
    }
}
