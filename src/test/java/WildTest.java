import java.util.Random;

/** Calls in any order with any arguments: none throws but what the document names, and itself. */
final class WildTest {
    private static final int OBJECTS = 3000;
    private static final int CALLS = 512;
    private static final String[] PIECES = {"class a, b;     ", "stage s does fet", "ch; stage t;    ",
        "latency a = 7;  ", "result a > s;   ", "path s > t;     ", "stall b;        ",
        "queue q = 9;    ", "queue r = 8 in t", ";               ", "port p : a, b;  "};
    private static final int[] EDGES = {-1, 0, 1, 2, 3, 7, 8, 12, 16, 17, 24, 4096,
        Integer.MIN_VALUE, Integer.MAX_VALUE};

    private final Random random = new Random(11);

    public static void main(String[] args) {
        WildTest test = new WildTest();
        for (int n = 0; n < OBJECTS; n++) {
            test.run(new CoreText());
        }
        Expect.finish();
    }

    private void run(CoreText x) {
        for (int n = 0; n < CALLS; n++) {
            int which = random.nextInt(40);
            try {
                call(x, which);
            } catch (RuntimeException e) {
                Expect.same("call " + which + " threw " + e, isDue(which, e.getClass()) ? 1 : 0, 1);
            }
        }
        Expect.same("an object that answers still", x.count(-1), CoreText.NONE);
    }

    private static boolean isDue(int which, Class<?> thrown) {
        if (which <= 2) {
            return which == 1 && thrown == IllegalArgumentException.class
                    || thrown == IllegalStateException.class && which <= 1;
        }
        if (which == 3) {
            return thrown == IllegalArgumentException.class;
        }
        return which <= 13 && thrown == IndexOutOfBoundsException.class;
    }

    private void call(CoreText x, int which) {
        int a = any();
        int b = any();
        switch (which) {
            case 0:
                x.feed(a, b, random.nextInt(), random.nextInt());
                break;
            case 1:
                x.end(a);
                break;
            case 2:
                x.again();
                break;
            case 3:
                x.read();
                break;
            case 4:
                x.fault(a);
                break;
            case 5:
                x.ofClass(a, b);
                break;
            case 6:
                x.task(a);
                break;
            case 7:
                x.path(a, b);
                break;
            case 8:
                x.queue(a, b);
                break;
            case 9:
                x.port(a, b);
                break;
            case 10:
                x.error(a, b);
                break;
            case 11:
                x.remark(a, b);
                break;
            case 12:
                x.out(a);
                break;
            case 14:
                x.print();
                break;
            case 15:
                x.errors();
                break;
            case 16:
                x.count(a);
                break;
            default:
                feedPiece(x);
                break;
        }
    }

    private void feedPiece(CoreText x) {
        if (x.count(0) <= 4080) {
            Expect.feed(x, PIECES[random.nextInt(PIECES.length)]);
        }
    }

    private int any() {
        return random.nextInt(5) == 0 ? random.nextInt() : EDGES[random.nextInt(EDGES.length)];
    }
}
