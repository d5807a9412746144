/** The bounds that promises 30, 31, 33 and 34 name. */
public final class LotsEdgesTest {
    private static final Edges EDGES = new Edges();

    public static void main(String[] args) {
        seed();
        lot();
        lotRefused();
        lotOfLittleRoom();
        lotOfNought();
        keep();
        again();
        againChangesNoMore();
        againNothing();
        EDGES.end();
    }

    /** The next z, by numbers that don't wrap around of themselves. */
    private static int next(int z) {
        long wide = Integer.toUnsignedLong(z) * 1103515245L + 12345L;
        long within = wide - (wide >> 32 << 32);
        return (int) (within > Integer.MAX_VALUE ? within - (1L << 32) : within);
    }

    private static int drawn(int z) {
        return (int) (Integer.toUnsignedLong(z) / 65536);
    }

    private static void seed() {
        EDGES.promise(30, "z becomes v: what it was");
        VectorWays x = new VectorWays();
        int[] values = {Edges.MIN, Edges.MAX, 0, -1, 1, 65536};
        int was = 1;
        for (int v : values) {
            EDGES.due("seed(" + v + ")", x.seed(v), was);
            was = v;
        }
        EDGES.due("seed(65536) once more", x.seed(65536), 65536);
        EDGES.due("no change", x.many(3), 0);
        EDGES.due("another object begins with 1", new VectorWays().seed(5), 1);
    }

    private static void lot() {
        EDGES.promise(31, "PARTS BY LOT come, n (1 to 6)");
        int[] seeds = {1, 0, -1, Edges.MAX, Edges.MIN, 2, 77777, -77777};
        for (int seed : seeds) {
            for (int n = 1; n <= 6; n++) {
                VectorWays x = new VectorWays();
                x.seed(seed);
                EDGES.due("seed " + seed + ": lot(" + n + ")", x.lot(n), n);
                EDGES.due("how many parts", x.many(0), n);
                EDGES.due("each is a change", x.many(3), n);
                int z = seed;
                for (int p = 0; p < n; p++) {
                    int first = next(z);
                    int second = next(first);
                    z = second;
                    int a = drawn(first) % 5;
                    int b = drawn(second) % 5;
                    EDGES.due("a of part " + p, x.partOf(p, 0), a + b == 0 ? 1 : a);
                    EDGES.due("b of part " + p, x.partOf(p, 1), a + b == 0 ? 1 : b);
                }
                EDGES.due("two draws for each", x.seed(0), z);
            }
        }
    }

    private static void lotRefused() {
        EDGES.promise(31, "n (1 to 6), or as many as there is room for: how many. BAD");
        VectorWays x = new VectorWays();
        VectorWays full = Due.with(1, 0, 1, 0, 1, 0, 1, 0, 1, 0, 1, 0);
        for (int wrong : Edges.outside(1, 6)) {
            EDGES.due("lot(" + wrong + ")", x.lot(wrong), Edges.BAD);
            EDGES.due("without room: lot(" + wrong + ")", full.lot(wrong), Edges.BAD);
        }
        EDGES.due("no part came", x.many(0), 0);
        EDGES.due("nothing was drawn", x.seed(1), 1);
        EDGES.due("nothing was drawn", full.seed(1), 1);
    }

    private static void lotOfLittleRoom() {
        EDGES.promise(31, "or as many as there is room for: how many");
        for (int room = 0; room <= 6; room++) {
            for (int n = 1; n <= 6; n++) {
                VectorWays x = new VectorWays();
                for (int p = room; p < 6; p++) {
                    x.part(4, 4);
                }
                int due = Math.min(n, room);
                EDGES.due("room for " + room + ": lot(" + n + ")", x.lot(n), due);
                EDGES.due("how many parts", x.many(0), 6 - room + due);
                int z = 1;
                for (int draw = 0; draw < 2 * due; draw++) {
                    z = next(z);
                }
                EDGES.due("two draws for each that came", x.seed(0), z);
            }
        }
    }

    private static void lotOfNought() {
        EDGES.promise(31, "PARTS BY LOT come");
        int noughts = 0;
        for (int seed = 0; seed < 400; seed++) {
            int a = drawn(next(seed)) % 5;
            int b = drawn(next(next(seed))) % 5;
            if (a + b == 0) {
                noughts++;
                VectorWays x = new VectorWays();
                x.seed(seed);
                EDGES.due("both are 0: lot(1)", x.lot(1), 1);
                EDGES.due("it is (1, 1): a", x.partOf(0, 0), 1);
                EDGES.due("it is (1, 1): b", x.partOf(0, 1), 1);
                EDGES.due("no third draw", x.seed(0), next(next(seed)));
            }
        }
        EDGES.due("some were looked at", noughts > 3 ? 1 : 0, 1);
    }

    private static void keep() {
        EDGES.promise(33, "PARTS with all that is theirs and z are kept: 1");
        VectorWays x = new VectorWays();
        EDGES.due("no parts", x.keep(), 1);
        EDGES.due("they are kept: none", x.again(), 0);
        for (int p = 0; p < 6; p++) {
            x.part(1 + p % 4, p % 5);
            x.weigh(p, 99 - p);
            Due.feed(x, "is " + p);
            x.rule(p);
        }
        x.seed(Edges.MIN);
        EDGES.due("six parts", x.keep(), 1);
        EDGES.due("once more", x.keep(), 1);
        EDGES.due("changes stay", x.many(3), 18);
        x.undo();
        x.undo();
        x.drop();
        x.seed(3);
        EDGES.due("six again", x.again(), 6);
        for (int p = 0; p < 6; p++) {
            EDGES.due("a of part " + p, x.partOf(p, 0), 1 + p % 4);
            EDGES.due("b of part " + p, x.partOf(p, 1), p % 5);
            EDGES.due("weight of part " + p, x.partOf(p, 2), 99 - p);
            EDGES.due("rule of part " + p, x.partOf(p, 4), 1);
            EDGES.due("rule of part " + p, x.lets(p, p), 1);
        }
        EDGES.due("z", x.seed(4), Edges.MIN);
    }

    private static void again() {
        EDGES.promise(34, "They become what was kept latest (which stays)");
        VectorWays x = Due.with(1, 0);
        x.keep();
        x.part(0, 1);
        x.seed(22);
        x.keep();
        x.part(1, 1);
        x.seed(33);
        for (int times = 0; times < 3; times++) {
            EDGES.due("the latest kept", x.again(), 2);
            EDGES.due("its z", x.seed(44), 22);
            EDGES.due("what comes then", x.part(2, 2), 2);
            EDGES.due("weighs what it likes", x.weigh(0, 7), 1);
        }
        EDGES.due("after undoing, too", x.undo(), 1);
        EDGES.due("the latest kept", x.again(), 2);
        EDGES.due("its weight", x.partOf(0, 2), 1);

        VectorWays other = Due.with(2, 1, 1, 3);
        other.keep();
        other.drop();
        other.drop();
        other.part(4, 4);
        other.part(3, 3);
        other.part(3, 3);
        EDGES.due("other parts stand in their places", other.free(12, 12), 6);
        EDGES.due("again()", other.again(), 2);
        EDGES.due("a of part 0", other.partOf(0, 0), 2);
        EDGES.due("b of part 0", other.partOf(0, 1), 1);
        EDGES.due("a of part 1", other.partOf(1, 0), 1);
        EDGES.due("b of part 1", other.partOf(1, 1), 3);
        EDGES.due("their ways", other.ways(3, 4), 1);
        EDGES.due("their free ways", other.free(12, 12), 0);
        EDGES.due("their rays", other.ray(1, 1), 3);
        EDGES.due("their period", other.period(), 5);

        EDGES.promise(34, "how many PARTS");
        x.drop();
        x.drop();
        x.keep();
        x.lot(6);
        EDGES.due("none", x.again(), 0);
        EDGES.due("no part", x.many(0), 0);
        EDGES.due("no ray", x.many(1), 0);
        EDGES.due("nought is made", x.ways(0, 0), 1);
        EDGES.due("nothing else is", x.free(1, 0), 0);
    }

    private static void againChangesNoMore() {
        EDGES.promise(34, "and no CHANGE may be undone then");
        VectorWays x = Due.with(1, 0, 0, 1);
        x.keep();
        for (int w = 1; w <= 40; w++) {
            x.weigh(1, w);
        }
        EDGES.due("30 may be undone", x.many(3), 30);
        EDGES.due("again()", x.again(), 2);
        EDGES.due("none may be", x.many(3), 0);
        EDGES.due("undo()", x.undo(), Edges.NONE);
        EDGES.due("two parts stay", x.many(0), 2);
        for (int w = 2; w <= 32; w++) {
            x.weigh(1, w);
        }
        EDGES.due("30 later ones may be undone", x.many(3), 30);
        for (int left = 29; left >= 0; left--) {
            EDGES.due("undo()", x.undo(), left);
        }
        EDGES.due("the first of 31 may not", x.undo(), Edges.NONE);
        EDGES.due("its weight stays", x.partOf(1, 2), 2);
        x.sheet(0, 1, 1);
        x.put(0, 0, 5);
        Due.feed(x, "is 1");
        EDGES.due("again()", x.again(), 2);
        EDGES.due("sheets aren't kept", x.item(0, 1, 0), 5);
        EDGES.due("the tape isn't kept", x.many(4), 4);
    }

    private static void againNothing() {
        EDGES.promise(34, "NONE: nothing is kept");
        VectorWays x = Due.with(1, 0, 0, 1);
        x.seed(9);
        EDGES.due("again()", x.again(), Edges.NONE);
        EDGES.due("parts stay", x.many(0), 2);
        EDGES.due("changes stay", x.many(3), 2);
        EDGES.due("z stays", x.seed(9), 9);
        EDGES.due("again() once more", x.again(), Edges.NONE);
        EDGES.due("undo()", x.undo(), 1);
        x.keep();
        EDGES.due("now one is kept", x.again(), 1);
    }
}
