/** Promises 30, 31, 33 and 34: draws, parts by lot, what is kept. */
public final class LotsTest {
    private static final int MIN = Integer.MIN_VALUE, MAX = Integer.MAX_VALUE;
    private static final Due DUE = new Due();

    public static void main(String[] args) {
        seed();
        lot();
        lotByMany();
        keepAgain();
        keepAllThatIsTheirs();
        DUE.end();
    }

    // Promise 30
    private static void seed() {
        VectorWays x = new VectorWays();
        DUE.due("1 at first", x.seed(MIN), 1);
        DUE.due("what it was", x.seed(MAX), MIN);
        DUE.due("what it was", x.seed(0), MAX);
        DUE.due("what it was", x.seed(-1), 0);
        DUE.due("what it was", x.seed(-1), -1);
        DUE.due("no change", x.many(3), 0);
    }

    // Promise 31
    private static void lot() {
        VectorWays x = new VectorWays();
        int[] bad = {0, -1, 7, MAX, MIN};
        for (int n : bad) {
            DUE.due("lot(" + n + ")", x.lot(n), VectorWays.BAD);
        }
        DUE.due("nothing was drawn", x.seed(1), 1);
        DUE.due("lot(4)", x.lot(4), 4);
        DUE.due("lot(1)", x.lot(1), 1);
        DUE.due("lot(2): room for one", x.lot(2), 1);
        int z = 1;
        for (int p = 0; p < 6; p++) {
            z = next(z);
            int a = (z >>> 16) % 5;
            z = next(z);
            int b = (z >>> 16) % 5;
            DUE.due("a of part " + p, x.partOf(p, 0), a == 0 && b == 0 ? 1 : a);
            DUE.due("b of part " + p, x.partOf(p, 1), a == 0 && b == 0 ? 1 : b);
            DUE.due("weight of part " + p, x.partOf(p, 2), 1);
            DUE.due("rule of part " + p, x.partOf(p, 4), 61);
        }
        DUE.due("no room", x.lot(6), 0);
        DUE.due("BAD without room too", x.lot(7), VectorWays.BAD);
        DUE.due("each is a change", x.many(3), 6);
        DUE.due("two draws for each that came", x.seed(3), z);
        DUE.due("undone one by one", x.undo(), 5);
        DUE.due("undone one by one", x.many(0), 5);
        DUE.due("what is drawn isn't undone", x.seed(3), 3);
    }

    private static void lotByMany() {
        boolean isNoughtSeen = false;
        for (int seed = -200; seed < 300; seed++) {
            VectorWays x = new VectorWays();
            x.seed(seed * 7919);
            x.lot(1);
            int z = next(seed * 7919);
            int a = (z >>> 16) % 5;
            int b = (next(z) >>> 16) % 5;
            boolean isNought = a == 0 && b == 0;
            isNoughtSeen |= isNought;
            DUE.due("a by lot", x.partOf(0, 0), isNought ? 1 : a);
            DUE.due("b by lot", x.partOf(0, 1), isNought ? 1 : b);
            DUE.due("rays by lot", x.many(1), 1);
        }
        DUE.due("both were 0 once", isNoughtSeen ? 1 : 0, 1);
    }

    private static int next(int z) {
        return z * 1103515245 + 12345;
    }

    // Promises 33 and 34
    private static void keepAgain() {
        VectorWays x = new VectorWays();
        DUE.due("nothing is kept", x.again(), VectorWays.NONE);
        DUE.due("keep no parts", x.keep(), 1);
        x.part(1, 0);
        x.seed(9);
        DUE.due("again none", x.again(), 0);
        DUE.due("none", x.many(0), 0);
        DUE.due("z too", x.seed(5), 1);
        x.part(1, 1);
        x.part(1, 0);
        DUE.due("keep", x.keep(), 1);
        DUE.due("changes stay", x.many(3), 2);
        x.lot(3);
        x.undo();
        DUE.due("again", x.again(), 2);
        DUE.due("no change may be undone", x.many(3), 0);
        DUE.due("no change may be undone", x.undo(), VectorWays.NONE);
        DUE.due("z", x.seed(6), 5);
        x.drop();
        x.drop();
        DUE.due("it stays kept", x.again(), 2);
        DUE.due("z is what was kept", x.seed(8), 5);
        DUE.due("another is kept", x.keep(), 1);
        x.drop();
        DUE.due("the latest", x.again(), 2);
        DUE.due("the latest", x.seed(8), 8);
        x.weigh(0, 2);
        DUE.due("a change after again", x.many(3), 1);
        DUE.due("undone", x.undo(), 0);
    }

    private static void keepAllThatIsTheirs() {
        VectorWays x = Due.with(2, 1, 0, 3, 1, 1);
        x.weigh(1, 44);
        Due.feed(x, "by 3");
        x.rule(1);
        Due.feed(x, "any an");
        x.sheet(0, 2, 1);
        x.keep();
        x.sheet(0, 1, 2);
        x.weigh(1, 1);
        x.drop();
        x.drop();
        x.part(4, 4);
        DUE.due("ways before", x.ways(4, 9), 0);
        DUE.due("free before", x.free(4, 2), 1);
        DUE.due("again", x.again(), 3);
        DUE.due("a", x.partOf(1, 0), 0);
        DUE.due("b", x.partOf(1, 1), 3);
        DUE.due("weight", x.partOf(1, 2), 44);
        DUE.due("ray", x.partOf(1, 3), 2);
        DUE.due("rule", x.partOf(1, 4), 21);
        DUE.due("the third", x.partOf(2, 1), 1);
        DUE.due("rays", x.many(1), 3);
        DUE.due("period", x.period(), 6);
        DUE.due("ways", x.ways(0, 9), 1);
        DUE.due("ways", x.ways(0, 6), 0);
        DUE.due("free", x.free(0, 6), 1);
        DUE.due("the tape isn't kept", x.many(4), 6);
        DUE.due("nor are sheets", x.item(0, 1, 1), 0);
        x.weigh(1, 7);
        Due.feed(x, "");
        DUE.due("again once more", x.again(), 3);
        DUE.due("what was kept isn't what one changes", x.partOf(1, 2), 44);
    }
}
