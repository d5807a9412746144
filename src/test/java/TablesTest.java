/** Promises 24 to 29: sheets, tables laid and checked, the part more that one needs. */
public final class TablesTest {
    private static final int MIN = Integer.MIN_VALUE, MAX = Integer.MAX_VALUE;
    private static final Due DUE = new Due();

    public static void main(String[] args) {
        sheets();
        sheetsRefused();
        puts();
        items();
        lays();
        laysTooGreat();
        checks();
        tablesRefused();
        mores();
        moresOfAllParts();
        DUE.end();
    }

    // Promise 24
    private static void sheets() {
        VectorWays x = new VectorWays();
        for (int sheet = 0; sheet < 4; sheet++) {
            for (int sort = 0; sort <= 2; sort++) {
                DUE.due("sheet", x.sheet(sheet, sort, 60), 1);
                DUE.due("its last place", x.item(sheet, sort, 59), 0);
                DUE.due("put", x.put(sheet, 59, 9), 1);
                DUE.due("again a sheet", x.sheet(sheet, sort, 60), 1);
                DUE.due("all 0", x.item(sheet, sort, 59), 0);
            }
            DUE.due("of no places", x.sheet(sheet, 1, 0), 1);
            DUE.due("no place", x.item(sheet, 1, 0), -12);
            int[] whatever = {0, 61, -1, MAX, MIN};
            for (int n : whatever) {
                DUE.due("missing, whatever n", x.sheet(sheet, -1, n), 1);
                DUE.due("missing", x.item(sheet, 1, 0), -11);
            }
        }
        x.sheet(0, 0, 5);
        DUE.due("its places", x.item(0, 0, 4), 0);
        DUE.due("its places", x.item(0, 0, 5), -12);
        DUE.due("one sheet is not another", x.item(1, 0, 0), -11);
        DUE.due("no change", x.many(3), 0);
    }

    private static void sheetsRefused() {
        VectorWays x = new VectorWays();
        x.sheet(1, 1, 3);
        x.put(1, 0, 77);
        int[][] bad = {{-1, 0, 1}, {4, 0, 1}, {1, -2, 1}, {1, 3, 1}, {1, 0, 61}, {1, 2, MAX}, {4, 0, -1}, {1, 3, -1},
            {-1, -1, 0}, {4, -1, 0}, {MAX, 0, 0}, {MIN, 0, 0}, {1, MAX, 0}, {1, MIN, 0}};
        for (int[] call : bad) {
            DUE.due("sheet", x.sheet(call[0], call[1], call[2]), VectorWays.BAD);
        }
        DUE.due("a size below 0", x.sheet(1, 0, -1), -14);
        DUE.due("a size below 0", x.sheet(1, 2, MIN), -14);
        DUE.due("refused calls change nothing", x.item(1, 1, 0), 77);
    }

    // Promise 25
    private static void puts() {
        VectorWays x = new VectorWays();
        long[] values = {0, 1, -1, 127, 128, 255, 256, -129, 32767, 32768, 65535, 65536, 0x12345678L, Long.MAX_VALUE,
            Long.MIN_VALUE, 0x180000000L, 0x0123456789abcdefL};
        for (int i = 0; i < values.length; i++) {
            for (int sort = 0; sort <= 2; sort++) {
                x.sheet(sort, sort, 3);
                DUE.due("put", x.put(sort, 1, values[i]), 1);
                int due = sort == 0 ? (byte) values[i] : sort == 1 ? (short) values[i] : (int) values[i];
                DUE.due("item of " + values[i], x.item(sort, sort, 1), due);
                DUE.due("the place ahead", x.item(sort, sort, 0), 0);
                DUE.due("the place behind", x.item(sort, sort, 2), 0);
            }
        }
        int[] bad = {-1, 4, MAX, MIN};
        for (int sheet : bad) {
            DUE.due("put", x.put(sheet, 0, 0), VectorWays.BAD);
        }
        DUE.due("missing", x.put(3, 0, 0), -11);
        DUE.due("missing goes ahead", x.put(3, -1, 0), -11);
        int[] outside = {-1, 3, 59, MAX, MIN};
        for (int i : outside) {
            DUE.due("put outside", x.put(0, i, 0), -12);
        }
        x.sheet(0, 0, 0);
        DUE.due("put where there is no place", x.put(0, 0, 0), -12);
    }

    // Promise 26
    private static void items() {
        VectorWays x = new VectorWays();
        x.sheet(0, 0, 2);
        x.sheet(1, 1, 2);
        x.sheet(2, 2, 2);
        for (int sheet = 0; sheet <= 2; sheet++) {
            for (int sort = 0; sort <= 2; sort++) {
                DUE.due("item", x.item(sheet, sort, 0), sort == sheet ? 0 : -13);
                DUE.due("-13 goes ahead of -12", x.item(sheet, sort, 2), sort == sheet ? -12 : -13);
                DUE.due("-13 goes ahead of -12", x.item(sheet, sort, -1), sort == sheet ? -12 : -13);
            }
            DUE.due("no such sort", x.item(sheet, -1, 0), VectorWays.BAD);
            DUE.due("no such sort", x.item(sheet, 3, 0), VectorWays.BAD);
            DUE.due("no such sort", x.item(sheet, MIN, 9), VectorWays.BAD);
            DUE.due("outside", x.item(sheet, sheet, MAX), -12);
            DUE.due("outside", x.item(sheet, sheet, MIN), -12);
        }
        DUE.due("missing", x.item(3, 0, 0), -11);
        DUE.due("missing goes ahead", x.item(3, 2, 99), -11);
        DUE.due("BAD goes ahead", x.item(3, 3, 0), VectorWays.BAD);
        DUE.due("no such sheet", x.item(4, 0, 0), VectorWays.BAD);
        DUE.due("no such sheet", x.item(-1, 0, 0), VectorWays.BAD);
    }

    // Promise 27
    private static void lays() {
        VectorWays x = Due.with(1, 0, 0, 1, 1, 1);
        for (int w = 1; w <= 10; w++) {
            for (int sort = 0; sort <= 1; sort++) {
                x.sheet(sort, sort, 7);
                DUE.due("lay", x.lay(sort, w), 7);
                for (int k = 0; k < 7; k++) {
                    // The lesser of both and 1.
                    DUE.due("place " + k + " of width " + w, x.item(sort, sort, k), Math.min(k % w, k / w) + 1);
                }
            }
        }
        x.sheet(0, 0, 60);
        DUE.due("lay", x.lay(0, 1), 60);
        DUE.due("the last place", x.item(0, 0, 59), 1);
        x.sheet(0, 0, 0);
        DUE.due("of no places", x.lay(0, 3), 0);
        VectorWays y = Due.with(1, 0, 0, 1, 1, 1);
        Due.feed(y, "not is 0");
        y.rule(2);
        y.sheet(0, 1, 9);
        DUE.due("lay", y.lay(0, 3), 9);
        int[] due = {0, 0, 0, 0, 1, 1, 0, 1, 2};
        for (int k = 0; k < 9; k++) {
            DUE.due("by rules", y.item(0, 1, k), due[k]);
        }
        DUE.due("no change", y.many(3), 4);
    }

    private static void laysTooGreat() {
        // On (n, 0) there are n and 1 times n and 2 by 2 ways: 120 of 14, 136 of 15.
        VectorWays x = Due.with(0, 1, 0, 1, 0, 1);
        x.sheet(0, 0, 15);
        DUE.due("120 at most", x.lay(0, 1), 15);
        DUE.due("120", x.item(0, 0, 14), 120);
        x.sheet(0, 0, 16);
        x.put(0, 3, 5);
        DUE.due("136 is above 127", x.lay(0, 1), VectorWays.OVER);
        DUE.due("nothing is laid", x.item(0, 0, 3), 5);
        DUE.due("nothing is laid", x.item(0, 0, 0), 0);
        x.sheet(0, 1, 16);
        DUE.due("not above 32767", x.lay(0, 1), 16);
        DUE.due("136", x.item(0, 1, 15), 136);

        // A number that the first part may not take leaves out 8 (or 9) of the 136 ways of 15.
        VectorWays byte8 = ruled("not is 8", 3);
        byte8.sheet(0, 0, 16);
        DUE.due("128 ways", byte8.ways(0, 15), 128);
        DUE.due("128 is above 127", byte8.lay(0, 1), VectorWays.OVER);
        VectorWays byte7 = ruled("not is 7", 3);
        byte7.sheet(0, 0, 16);
        DUE.due("127 isn't", byte7.lay(0, 1), 16);
        DUE.due("127", byte7.item(0, 0, 15), 127);

        VectorWays y = Due.with(0, 1, 0, 2, 0, 3);
        y.sheet(0, 0, 60);
        DUE.due("61 at (0, 36) is far off the bound", y.lay(0, 1), VectorWays.OVER);
        y.sheet(0, 0, 36);
        DUE.due("127 at (0, 36)", y.ways(0, 36), 127);
        y.sheet(0, 0, 37);
        DUE.due("127 stands in bytes", y.lay(0, 1), 37);
        DUE.due("127", y.item(0, 0, 36), 127);
        y.sheet(0, 0, 38);
        DUE.due("133 doesn't", y.lay(0, 1), VectorWays.OVER);

        // Numbers that the first part may not take leave out 1431, 21 and 1 of the 34220 ways of 57.
        VectorWays shorts = ruled("not (is 5 or is 52)", 4);
        shorts.sheet(0, 1, 58);
        DUE.due("32768 ways", shorts.ways(0, 57), 32768);
        DUE.due("32768 is above 32767", shorts.lay(0, 1), VectorWays.OVER);
        shorts = ruled("not (is 5 or is 52 or is 57)", 4);
        shorts.sheet(0, 1, 58);
        DUE.due("32767 isn't", shorts.lay(0, 1), 58);
        DUE.due("32767", shorts.item(0, 1, 57), 32767);

        // At (0, 56) 32509, at (0, 57) 34220.
        VectorWays z = Due.with(0, 1, 0, 1, 0, 1, 0, 1);
        z.sheet(0, 1, 57);
        DUE.due("ways(0, 56)", z.ways(0, 56), 32509);
        DUE.due("32509 stands in shorts", z.lay(0, 1), 57);
        z.sheet(0, 1, 58);
        DUE.due("34220 doesn't", z.lay(0, 1), VectorWays.OVER);
    }

    /** Parts that go 1 up, the first of which has a rule. */
    private static VectorWays ruled(String text, int parts) {
        VectorWays x = new VectorWays();
        for (int i = 0; i < parts; i++) {
            x.part(0, 1);
        }
        Due.feed(x, text);
        x.rule(0);
        return x;
    }

    // Promise 28
    private static void checks() {
        VectorWays x = Due.with(1, 0, 0, 1, 1, 1);
        x.sheet(0, 0, 20);
        x.lay(0, 4);
        DUE.due("all are", x.check(0, 4), VectorWays.NONE);
        DUE.due("of another width", x.check(0, 5), 4 + 1);
        int[] order = {19, 7, 0};
        for (int k : order) {
            x.put(0, k, 100);
            DUE.due("the first that is not", x.check(0, 4), k);
        }
        x.lay(0, 4);
        x.put(0, 19, 3 + 256);
        DUE.due("the low bits stand there", x.item(0, 0, 19), 3);
        Due.feed(x, "is 0");
        x.rule(2);
        DUE.due("rules count", x.check(0, 4), 5);
        x.undo();
        x.lay(0, 4);
        DUE.due("no rule any more", x.check(0, 4), VectorWays.NONE);
        x.sheet(1, 1, 0);
        DUE.due("of no places", x.check(1, 4), VectorWays.NONE);
        x.sheet(1, 1, 1);
        DUE.due("0 is not 1", x.check(1, 4), 0);

        // A byte of -120 is not how many ways there are, though 136 has its bits.
        VectorWays y = Due.with(0, 1, 0, 1, 0, 1);
        y.sheet(0, 0, 15);
        y.lay(0, 1);
        y.sheet(1, 0, 16);
        for (int k = 0; k < 15; k++) {
            y.put(1, k, y.item(0, 0, k));
        }
        y.put(1, 15, 136);
        DUE.due("-120 is not 136", y.check(1, 1), 15);
    }

    private static void tablesRefused() {
        VectorWays x = Due.with(1, 0, 0, 1);
        x.sheet(0, 0, 4);
        x.sheet(1, 2, 4);
        int[][] bad = {{-1, 1}, {4, 1}, {0, 0}, {0, 11}, {0, -1}, {1, 0}, {2, 0}, {2, 11}, {MAX, 1}, {MIN, 1}, {0, MAX},
            {0, MIN}};
        for (int[] call : bad) {
            DUE.due("lay", x.lay(call[0], call[1]), VectorWays.BAD);
            DUE.due("check", x.check(call[0], call[1]), VectorWays.BAD);
            DUE.due("more", x.more(call[0], call[1], 0), VectorWays.BAD);
        }
        int[] whats = {-1, 2, MAX, MIN};
        for (int what : whats) {
            DUE.due("more", x.more(0, 1, what), VectorWays.BAD);
            DUE.due("BAD goes ahead", x.more(2, 1, what), VectorWays.BAD);
            DUE.due("BAD goes ahead", x.more(1, 1, what), VectorWays.BAD);
        }
        DUE.due("missing", x.lay(2, 1), -11);
        DUE.due("missing", x.check(2, 1), -11);
        DUE.due("missing", x.more(2, 1, 1), -11);
        DUE.due("of longs", x.lay(1, 1), -13);
        DUE.due("of longs", x.check(1, 1), -13);
        DUE.due("of longs", x.more(1, 1, 1), -13);
    }

    // Promise 29
    private static void mores() {
        VectorWays x = Due.with(1, 0, 0, 1, 1, 1);
        x.sheet(0, 0, 25);
        x.lay(0, 5);
        DUE.due("none more is needed", x.more(0, 5, 0), 0);
        DUE.due("none more is needed", x.more(0, 5, 1), VectorWays.NONE);
        x.drop();
        DUE.due("one is", x.more(0, 5, 0), 1);
        DUE.due("it is (1, 1)", x.more(0, 5, 1), 11);
        Due.feed(x, "is 0");
        x.rule(0);
        DUE.due("of free ways, whatever rules let", x.more(0, 5, 1), 11);
        x.drop();
        DUE.due("two are", x.more(0, 5, 1), VectorWays.NONE);

        VectorWays y = Due.with(1, 0);
        y.sheet(0, 1, 3);
        y.lay(0, 3);
        // Only (0..2, 0) is told: all that go up fit, and (3, 0) and (4, 0).
        DUE.due("how many fit", y.more(0, 3, 0), 4 * 5 + 2);
        DUE.due("the first by a, then b", y.more(0, 3, 1), 1);
        y.put(0, 1, 2);
        y.put(0, 2, 3);
        DUE.due("another (1, 0)", y.more(0, 3, 0), 1);
        DUE.due("another (1, 0)", y.more(0, 3, 1), 10);
        y.put(0, 1, 1);
        y.put(0, 2, 2);
        DUE.due("(2, 0)", y.more(0, 3, 1), 20);
        y.sheet(0, 0, 0);
        DUE.due("of no places all fit", y.more(0, 3, 0), 24);
        DUE.due("the first of all", y.more(0, 3, 1), 1);
        y.sheet(0, 0, 1);
        DUE.due("no way to make nought fits none", y.more(0, 3, 0), 0);
        DUE.due("it is no change", y.many(3), 1);
        DUE.due("nor a part", y.many(0), 1);
    }

    private static void moresOfAllParts() {
        for (int a = 0; a <= 4; a++) {
            for (int b = a == 0 ? 1 : 0; b <= 4; b++) {
                VectorWays x = Due.with(2, 1, 1, 3, 1, 1);
                x.part(a, b);
                x.sheet(2, 1, 60);
                DUE.due("lay", x.lay(2, 7), 60);
                x.drop();
                DUE.due("it is what is needed", x.more(2, 7, 1), 10 * a + b);
                DUE.due("alone", x.more(2, 7, 0), 1);
            }
        }
        VectorWays full = Due.with(1, 0, 0, 1, 1, 1, 1, 2, 2, 1, 1, 3);
        full.sheet(0, 1, 1);
        full.put(0, 0, 1);
        DUE.due("six parts: as if there were room", full.more(0, 1, 0), 24);
    }
}
