import com.sun.management.ThreadMXBean;
import java.lang.management.ManagementFactory;
import java.util.Random;

/** No call throws, whatever it is asked, and the calls of one object stay within the room that a run has. */
public final class RoomTest {
    private static final int[] NUMBERS = {-2, -1, 0, 1, 2, 3, 4, 5, 6, 8, 10, 11, 30, 60, 61, 100, -60, -61,
        Integer.MAX_VALUE, Integer.MIN_VALUE, Integer.MAX_VALUE - 1, 1 << 16, 0x20000000};
    private static final int CALLS = 512;
    /** An element is a byte at least, an object sixteen: so few bytes are neither too many elements nor objects. */
    private static final long ROOM = 7_300_000;

    private static long sum = 0;

    public static void main(String[] args) {
        ThreadMXBean threads = (ThreadMXBean) ManagementFactory.getThreadMXBean();
        Due due = new Due();
        // The first runs load classes, which takes room of its own.
        run(1);
        for (int seed = 2; seed < 60; seed++) {
            long before = threads.getCurrentThreadAllocatedBytes();
            run(seed);
            long taken = threads.getCurrentThreadAllocatedBytes() - before;
            due.due("a run stays within the room, with " + taken + " bytes", taken < ROOM ? 1 : 0, 1);
        }
        due.end();
        if (sum == 1) {
            System.out.println("what the calls answered is used");
        }
    }

    private static int any(Random random) {
        return random.nextInt(3) == 0 ? NUMBERS[random.nextInt(NUMBERS.length)] : random.nextInt(7);
    }

    private static void run(int seed) {
        Random random = new Random(seed);
        VectorWays x = new VectorWays();
        for (int call = 0; call < CALLS; call++) {
            int a = any(random);
            int b = any(random);
            int c = any(random);
            int d = any(random);
            int e = any(random);
            sum += random.nextBoolean() ? change(x, random.nextInt(17), a, b, c) : ask(x, random.nextInt(17), a, b, c, d, e);
        }
    }

    private static long change(VectorWays x, int which, int a, int b, int c) {
        switch (which) {
            case 0: return x.part(a, b);
            case 1: return x.arc(a, b);
            case 2: return x.drop();
            case 3: return x.weigh(a, b);
            case 4: return x.feed(0x20796e6120726f20L >>> 8 * (a & 7), b);
            case 5: return x.feed((long) a << 32 ^ b, c);
            case 6: return x.feed(0x28282828282828L, b);
            case 7: return x.feed(0x20746f6e20746f6eL, b);
            case 8: return x.rule(a);
            case 9: return x.undo();
            case 10: return x.sheet(a, b, c);
            case 11: return x.put(a, b, c);
            case 12: return x.lay(a, b);
            case 13: return x.seed(a);
            case 14: return x.lot(a);
            case 15: return x.keep();
            default: return x.again();
        }
    }

    private static long ask(VectorWays x, int which, int a, int b, int c, int d, int e) {
        switch (which) {
            case 0: return x.partOf(a, b);
            case 1: return x.lets(a, b);
            case 2: return x.ways(a, b);
            case 3: return x.free(a, b);
            case 4: return x.strict(a, b);
            case 5: return x.way(a, b, c, d);
            case 6: return x.fold(a, b, c);
            case 7: return x.ray(a, b);
            case 8: return a < 3 ? x.period() : x.unit();
            case 9: return x.chamberOf(a, b);
            case 10: return x.home(a, b, c, d);
            case 11: return x.difference(a, b, c, d, e);
            case 12: return x.formula(a, b, c);
            case 13: return x.agrees(a, b);
            case 14: return d < 3 ? x.item(a, b, c) : x.many(d);
            case 15: return x.check(a, b);
            default: return x.more(a, b, c);
        }
    }
}
