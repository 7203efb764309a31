import java.lang.management.ManagementFactory;

/** What the dearest runs make stays small, and every call on any numbers ends without a throw but look's. */
final class RoomTest {
    private static final String LARGE = "groups 4;pot a b c d;pot e f g h;pot i j k l;mark m a b e i;mark n c f g;"
            + "mark o d h j l;atmost 2 m;atmost 2 n;atmost 2 o;apart a f;never b 1;never e 2;apart c i;never h 0;"
            + "apart d l;never k 3;";
    private static final String SMALL = "groups 2;pot a b;never a 0;";
    private static final int[] NUMBERS = {Integer.MIN_VALUE, -70000, -2, -1, 0, 1, 2, 3, 4, 5, 6, 9, 10, 11, 12, 13,
        24, 100, 13823, 13824, 70000, Integer.MAX_VALUE};

    private static int wrong;

    private RoomTest() {
    }

    private static void read(BallPots x, String text) {
        if (Tapes.read(x, text) < 0) {
            wrong++;
            System.out.println("fault " + x.fault(0) + " at " + x.fault(1));
        }
    }

    public static void main(String[] args) {
        room();
        for (String text : new String[] {"", SMALL, LARGE, SMALL + "never a 1;"}) {
            anyNumbers(text);
        }
        System.out.println("room and any numbers, " + wrong + " things are not so");
        System.exit(wrong == 0 ? 0 : 1);
    }

    private static long bytesMade() {
        return ((com.sun.management.ThreadMXBean) ManagementFactory.getThreadMXBean())
                .getThreadAllocatedBytes(Thread.currentThread().getId());
    }

    /** An object of 512 calls makes at most 80,000 elements of eight bytes at most, however texts change. */
    private static void room() {
        long before = bytesMade();
        BallPots x = new BallPots();
        long sum = 0;
        for (int k = 0; k < 16; k++) {
            read(x, k % 2 == 0 ? LARGE : SMALL);
            for (int way = 0; way < 3; way++) {
                sum += x.pair(0, 1, way) + x.apart(way, (way + 1) % 3, 1);
            }
            x.ball(0);
            sum += x.nearest(0) + x.nearest(1) + x.leave(20) + x.parts(2) + x.mixed(5, 0) + x.run(k, 1) + x.blame(0);
        }
        long made = bytesMade() - before;
        System.out.println("made: " + made + " bytes (" + sum + ")");
        if (made > 8 * 80000) {
            wrong++;
            System.out.println("that is too much");
        }
    }

    private static void anyNumbers(String text) {
        BallPots x = new BallPots();
        read(x, text);
        for (int a : NUMBERS) {
            single(x, a);
            for (int b : NUMBERS) {
                for (int c : NUMBERS) {
                    x.pair(a, b, c);
                    x.place(a, b, c);
                    x.apart(a, b, c);
                    x.moves(a, b, c);
                }
                x.named(a, b);
                x.draw(a, b);
                x.mix(a, b);
                x.mixed(a, b);
                x.run(a, b);
                x.evenly(a, b);
            }
        }
    }

    private static void single(BallPots x, int a) {
        x.fault(a);
        x.without(a);
        x.judge(a);
        x.ball(a);
        x.why(a);
        x.placed(a);
        x.ends(a);
        x.blame(a);
        x.all(a);
        x.nearest(a);
        x.leads(a);
        x.leave(a);
        x.parts(a);
        x.count(a);
        x.ball(x.count(5));
        x.forbids();
        if (a % 4 == 0) {
            x.order(a);
            x.arrange(a);
        }
        if (a == 9) {
            x.undo();
        }
    }
}
