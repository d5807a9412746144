/** The bounds that promises 24 to 29 name. */
public final class TablesEdgesTest {
    private static final int BYTES = 0, SHORTS = 1, LONGS = 2;
    private static final Edges EDGES = new Edges();

    public static void main(String[] args) {
        sheet();
        sheetRefused();
        put();
        putRefused();
        item();
        itemRefused();
        lay();
        layTooGreat();
        layTooGreatChangesNothing();
        check();
        more();
        moreOfEach();
        tablesRefused();
        EDGES.end();
    }

    private static VectorWays withSheet(int sheet, int sort, int n, int... steps) {
        VectorWays x = Due.with(steps);
        x.sheet(sheet, sort, n);
        return x;
    }

    private static void sheet() {
        EDGES.promise(24, "A SHEET becomes a row of n of a sort, all 0, or is missing (sort -1, whatever n): 1");
        for (int sheet = 0; sheet <= 3; sheet++) {
            VectorWays x = new VectorWays();
            for (int sort = BYTES; sort <= LONGS; sort++) {
                EDGES.due("a row of none", x.sheet(sheet, sort, 0), 1);
                EDGES.due("no place", x.item(sheet, sort, 0), Edges.OUTSIDE);
                EDGES.due("a row of 1", x.sheet(sheet, sort, 1), 1);
                EDGES.due("its place", x.item(sheet, sort, 0), 0);
                EDGES.due("no more", x.item(sheet, sort, 1), Edges.OUTSIDE);
                EDGES.due("a row of 60", x.sheet(sheet, sort, 60), 1);
                for (int i = 0; i < 60; i++) {
                    x.put(sheet, i, i + 1);
                }
                EDGES.due("the last place", x.item(sheet, sort, 59), 60);
                EDGES.due("no more", x.item(sheet, sort, 60), Edges.OUTSIDE);
                EDGES.due("the same once more", x.sheet(sheet, sort, 60), 1);
                EDGES.due("all 0", x.item(sheet, sort, 0), 0);
                EDGES.due("all 0", x.item(sheet, sort, 59), 0);
            }
            int[] whatever = {0, 1, 60, 61, -1, Edges.MAX, Edges.MIN};
            for (int n : whatever) {
                x.sheet(sheet, SHORTS, 2);
                EDGES.due("sheet(" + sheet + ", -1, " + n + ")", x.sheet(sheet, -1, n), 1);
                EDGES.due("it is missing", x.item(sheet, SHORTS, 0), Edges.MISSING);
                EDGES.due("missing already", x.sheet(sheet, -1, n), 1);
            }
        }
        VectorWays fewer = withSheet(0, BYTES, 9);
        fewer.put(0, 8, 8);
        fewer.sheet(0, BYTES, 8);
        EDGES.due("fewer places", fewer.item(0, BYTES, 8), Edges.OUTSIDE);
        fewer.sheet(0, BYTES, 9);
        EDGES.due("what stood there is 0", fewer.item(0, BYTES, 8), 0);
    }

    private static void sheetRefused() {
        EDGES.promise(24, "BAD: sheet, sort, n above 60; -14");
        VectorWays x = withSheet(3, SHORTS, 2);
        x.put(3, 1, -77);
        for (int wrong : Edges.outside(0, 3)) {
            EDGES.due("sheet(" + wrong + ", 0, 1)", x.sheet(wrong, BYTES, 1), Edges.BAD);
            EDGES.due("sheet(" + wrong + ", -1, 1)", x.sheet(wrong, -1, 1), Edges.BAD);
            EDGES.due("BAD is named first: sheet(" + wrong + ", 0, -1)", x.sheet(wrong, BYTES, -1), Edges.BAD);
        }
        for (int wrong : Edges.outside(-1, 2)) {
            EDGES.due("sheet(3, " + wrong + ", 1)", x.sheet(3, wrong, 1), Edges.BAD);
            EDGES.due("BAD is named first: sheet(3, " + wrong + ", -1)", x.sheet(3, wrong, -1), Edges.BAD);
        }
        for (int sort = BYTES; sort <= LONGS; sort++) {
            EDGES.due("61 places", x.sheet(3, sort, 61), Edges.BAD);
            EDGES.due("62 places", x.sheet(3, sort, 62), Edges.BAD);
            EDGES.due("MAX places", x.sheet(3, sort, Edges.MAX), Edges.BAD);
            EDGES.due("-1 places", x.sheet(3, sort, -1), Edges.BELOW_NOUGHT);
            EDGES.due("-61 places", x.sheet(3, sort, -61), Edges.BELOW_NOUGHT);
            EDGES.due("MIN places", x.sheet(3, sort, Edges.MIN), Edges.BELOW_NOUGHT);
        }
        EDGES.due("the row stays", x.item(3, SHORTS, 1), -77);
        EDGES.due("as long as it was", x.item(3, SHORTS, 2), Edges.OUTSIDE);
    }

    private static void put() {
        EDGES.promise(25, "Place i of a row becomes v (bytes: its lowest 8 bits, shorts: its lowest 16): 1");
        // Each value, and what bytes, shorts and longs (told by 32 bits) hold of it.
        long[][] due = {{127, 127, 127, 127}, {128, -128, 128, 128}, {255, -1, 255, 255}, {256, 0, 256, 256},
            {257, 1, 257, 257}, {-128, -128, -128, -128}, {-129, 127, -129, -129}, {32767, -1, 32767, 32767},
            {32768, 0, -32768, 32768}, {65535, -1, -1, 65535}, {65536, 0, 0, 65536}, {-32769, -1, 32767, -32769},
            {0x7fffffffL, -1, -1, 0x7fffffffL}, {0x80000000L, 0, 0, Edges.MIN}, {0xffffffffL, -1, -1, -1},
            {0x100000000L, 0, 0, 0}, {Long.MAX_VALUE, -1, -1, -1}, {Long.MIN_VALUE, 0, 0, 0}, {-1, -1, -1, -1}};
        for (int sort = BYTES; sort <= LONGS; sort++) {
            VectorWays x = withSheet(1, sort, 60);
            for (long[] row : due) {
                EDGES.due("put(1, 59, " + row[0] + ")", x.put(1, 59, row[0]), 1);
                EDGES.due("item of " + row[0], x.item(1, sort, 59), row[1 + sort]);
            }
            EDGES.due("put(1, 0, 7)", x.put(1, 0, 7), 1);
            EDGES.due("the first place", x.item(1, sort, 0), 7);
            EDGES.due("the second stays", x.item(1, sort, 1), 0);
        }
    }

    private static void putRefused() {
        EDGES.promise(25, "BAD; -11; -12");
        VectorWays x = withSheet(0, LONGS, 3);
        x.sheet(1, BYTES, 0);
        for (int wrong : Edges.outside(0, 3)) {
            EDGES.due("put(" + wrong + ", 0, 5)", x.put(wrong, 0, 5), Edges.BAD);
            EDGES.due("BAD is named first: put(" + wrong + ", -1, 5)", x.put(wrong, -1, 5), Edges.BAD);
        }
        for (int wrong : Edges.outside(0, 2)) {
            EDGES.due("put(0, " + wrong + ", 5)", x.put(0, wrong, 5), Edges.OUTSIDE);
            EDGES.due("-11 is named first: put(2, " + wrong + ", 5)", x.put(2, wrong, 5), Edges.MISSING);
        }
        EDGES.due("missing", x.put(3, 0, 5), Edges.MISSING);
        EDGES.due("a row of none", x.put(1, 0, 5), Edges.OUTSIDE);
        x.sheet(0, -1, 3);
        EDGES.due("missing again", x.put(0, 0, 5), Edges.MISSING);
    }

    private static void item() {
        EDGES.promise(26, "Place i of a row taken for one of a sort (of longs the lowest 32 bits)");
        VectorWays x = withSheet(2, LONGS, 60);
        x.put(2, 0, 0x1_8000_0000L);
        x.put(2, 59, 0xffff_ffff_7fff_ffffL);
        EDGES.due("the lowest 32 bits below 0", x.item(2, LONGS, 0), Edges.MIN);
        EDGES.due("the lowest 32 bits above 0", x.item(2, LONGS, 59), Edges.MAX);
        x.sheet(2, BYTES, 60);
        x.put(2, 59, 200);
        EDGES.due("a byte below 0", x.item(2, BYTES, 59), -56);
        x.sheet(2, SHORTS, 60);
        x.put(2, 59, 40000);
        EDGES.due("a short below 0", x.item(2, SHORTS, 59), -25536);
    }

    private static void itemRefused() {
        EDGES.promise(26, "BAD: sheet, sort; -11; -13; -12 (here -13 goes ahead of -12)");
        VectorWays x = new VectorWays();
        for (int sheet = 0; sheet <= 2; sheet++) {
            x.sheet(sheet, sheet, 3);
        }
        for (int wrong : Edges.outside(0, 3)) {
            EDGES.due("item(" + wrong + ", 0, 0)", x.item(wrong, BYTES, 0), Edges.BAD);
            EDGES.due("BAD is named first: item(" + wrong + ", 1, -1)", x.item(wrong, SHORTS, -1), Edges.BAD);
        }
        for (int wrong : Edges.outside(0, 2)) {
            for (int sheet = 0; sheet <= 3; sheet++) {
                EDGES.due("item(" + sheet + ", " + wrong + ", 0)", x.item(sheet, wrong, 0), Edges.BAD);
                EDGES.due("BAD is named first: item(" + sheet + ", " + wrong + ", 9)", x.item(sheet, wrong, 9), Edges.BAD);
            }
            for (int sort = BYTES; sort <= LONGS; sort++) {
                EDGES.due("item(" + sort + ", " + sort + ", " + wrong + ")", x.item(sort, sort, wrong), Edges.OUTSIDE);
                int other = (sort + 1) % 3;
                EDGES.due("-13 is named first: item(" + sort + ", " + other + ", " + wrong + ")",
                    x.item(sort, other, wrong), Edges.OTHER_SORT);
                EDGES.due("-11 is named first: item(3, " + sort + ", " + wrong + ")", x.item(3, sort, wrong),
                    Edges.MISSING);
            }
        }
        for (int sheet = 0; sheet <= 2; sheet++) {
            for (int sort = BYTES; sort <= LONGS; sort++) {
                EDGES.due("item(" + sheet + ", " + sort + ", 2)", x.item(sheet, sort, 2), sheet == sort ? 0 : -13);
            }
        }
        x.sheet(0, BYTES, 0);
        EDGES.due("a row of none", x.item(0, BYTES, 0), Edges.OUTSIDE);
        EDGES.due("a row of none, of another sort", x.item(0, SHORTS, 0), Edges.OTHER_SORT);
    }

    private static void lay() {
        EDGES.promise(27, "A row of bytes or shorts becomes the TABLE of WAYS of width w: how many places");
        for (int sort = BYTES; sort <= SHORTS; sort++) {
            for (int w = 1; w <= 10; w++) {
                VectorWays x = withSheet(3, sort, 60, 1, 0, 0, 1, 1, 1);
                EDGES.due("lay(3, " + w + ")", x.lay(3, w), 60);
                for (int k = 0; k < 60; k++) {
                    EDGES.due("place " + k, x.item(3, sort, k), Math.min(k % w, k / w) + 1);
                }
            }
            EDGES.due("a row of none", withSheet(0, sort, 0, 1, 0).lay(0, 1), 0);
            EDGES.due("a row of one", withSheet(0, sort, 1, 1, 0).lay(0, 10), 1);
            VectorWays none = withSheet(0, sort, 2);
            EDGES.due("no parts", none.lay(0, 10), 2);
            EDGES.due("no parts: nought is made", none.item(0, sort, 0), 1);
            EDGES.due("no parts: nothing else is", none.item(0, sort, 1), 0);
        }
        VectorWays up = Edges.ruled("is 0 or is 59", 0, 1);
        up.sheet(0, BYTES, 60);
        up.put(0, 30, 99);
        EDGES.due("by rules", up.lay(0, 1), 60);
        EDGES.due("59 up", up.item(0, BYTES, 59), 1);
        EDGES.due("58 up", up.item(0, BYTES, 58), 0);
        EDGES.due("what stood there is gone", up.item(0, BYTES, 30), 0);
    }

    private static void layTooGreat() {
        EDGES.promise(27, "OVER: one is above the greatest that stands in such a row");
        // Of 0 to 15 of three parts that go up there are 136 ways in all; the rule of one leaves out 9 or 8.
        String[] rules = {"not is 7", "not is 8", "any"};
        int[] ways = {127, 128, 136};
        for (int i = 0; i < 3; i++) {
            VectorWays x = Edges.ruled(rules[i], 0, 1, 0, 1, 0, 1);
            EDGES.due("ways(0, 15)", x.ways(0, 15), ways[i]);
            x.sheet(0, BYTES, 16);
            EDGES.due("bytes of " + ways[i], x.lay(0, 1), ways[i] > 127 ? Edges.OVER : 16);
            EDGES.due("the last byte", x.item(0, BYTES, 15), ways[i] > 127 ? 0 : ways[i]);
            x.sheet(0, SHORTS, 16);
            EDGES.due("shorts of " + ways[i], x.lay(0, 1), 16);
            EDGES.due("the last short", x.item(0, SHORTS, 15), ways[i]);
        }
        // Of 57 of four parts there are 34220 ways; what one may not be leaves out 1431, 21 and 1.
        String[] farRules = {"not (is 5 or is 52 or is 57)", "not (is 5 or is 52)", "any"};
        int[] farWays = {32767, 32768, 34220};
        for (int i = 0; i < 3; i++) {
            VectorWays x = Edges.ruled(farRules[i], 0, 1, 0, 1, 0, 1, 0, 1);
            EDGES.due("ways(0, 57)", x.ways(0, 57), farWays[i]);
            x.sheet(0, SHORTS, 58);
            EDGES.due("shorts of " + farWays[i], x.lay(0, 1), farWays[i] > 32767 ? Edges.OVER : 58);
            EDGES.due("the last short", x.item(0, SHORTS, 57), farWays[i] > 32767 ? 0 : farWays[i]);
        }
        // 65536 and more would wrap around to what stands in a short, 256 and more in a byte.
        VectorWays far = Due.with(0, 1, 0, 1, 0, 1, 0, 1, 0, 1, 0, 1);
        far.sheet(0, SHORTS, 60);
        EDGES.due("millions in shorts", far.lay(0, 1), Edges.OVER);
        far.sheet(0, BYTES, 9);
        EDGES.due("252, 462, 792, 1287 in bytes", far.lay(0, 1), Edges.OVER);
        far.sheet(0, BYTES, 5);
        EDGES.due("126 in bytes", far.lay(0, 1), 5);
    }

    private static void layTooGreatChangesNothing() {
        EDGES.promise(27, "OVER: one is above the greatest that stands in such a row");
        VectorWays x = Due.with(0, 1, 0, 1, 0, 1);
        x.sheet(0, BYTES, 16);
        for (int k = 0; k < 16; k++) {
            x.put(0, k, 50 + k);
        }
        EDGES.due("the last alone is too great", x.lay(0, 1), Edges.OVER);
        for (int k = 0; k < 16; k++) {
            EDGES.due("place " + k + " stays", x.item(0, BYTES, k), 50 + k);
        }
        x.sheet(0, BYTES, 32);
        x.put(0, 31, 9);
        EDGES.due("the last but one of width 2 is too great", x.lay(0, 2), Edges.OVER);
        EDGES.due("the last stays", x.item(0, BYTES, 31), 9);
        x.sheet(1, BYTES, 15);
        EDGES.due("without it", x.lay(1, 1), 15);
        EDGES.due("120", x.item(1, BYTES, 14), 120);

        EDGES.promise(27, "BAD: sheet, w; -11; -13; OVER: one is above the greatest that stands in such a row");
        EDGES.due("BAD is named first", x.lay(0, 11), Edges.BAD);
        x.sheet(2, LONGS, 16);
        EDGES.due("-13 of longs, whatever is too great", x.lay(2, 1), Edges.OTHER_SORT);
    }

    private static void check() {
        EDGES.promise(28, "The first place of a TABLE of bytes or shorts that is not how many WAYS there are");
        for (int sort = BYTES; sort <= SHORTS; sort++) {
            VectorWays x = withSheet(1, sort, 60, 1, 0, 0, 1);
            EDGES.due("0 is not 1", x.check(1, 10), 0);
            x.lay(1, 10);
            EDGES.due("all are", x.check(1, 10), Edges.NONE);
            x.put(1, 59, 0);
            EDGES.due("the last isn't", x.check(1, 10), 59);
            x.put(1, 1, 2);
            EDGES.due("the second isn't, either", x.check(1, 10), 1);
            x.put(1, 0, -1);
            EDGES.due("nor the first", x.check(1, 10), 0);
            EDGES.due("checking changes nothing", x.item(1, sort, 59), 0);
        }

        EDGES.promise(28, "NONE: all are");
        EDGES.due("a row of none", withSheet(0, BYTES, 0, 1, 0).check(0, 1), Edges.NONE);
        VectorWays none = withSheet(0, SHORTS, 3);
        none.put(0, 0, 1);
        EDGES.due("no parts: 1, 0, 0", none.check(0, 1), Edges.NONE);
        VectorWays rule = Edges.ruled("is 0 or is 2", 1, 0);
        rule.sheet(0, BYTES, 3);
        rule.put(0, 0, 1);
        rule.put(0, 2, 1);
        EDGES.due("by rules: 1, 0, 1", rule.check(0, 3), Edges.NONE);
        EDGES.due("of width 2", rule.check(0, 2), 2);

        EDGES.promise(28, "The first place of a TABLE of bytes or shorts that is not how many WAYS there are");
        // 136 ways, and 462 ways, whose lowest 8 bits a byte may hold: it isn't them all the same.
        VectorWays far = withSheet(0, BYTES, 16, 0, 1, 0, 1, 0, 1);
        for (int k = 0; k < 16; k++) {
            far.put(0, k, far.ways(0, k));
        }
        EDGES.due("-120 is not 136", far.check(0, 1), 15);
        VectorWays six = withSheet(0, BYTES, 7, 0, 1, 0, 1, 0, 1, 0, 1, 0, 1, 0, 1);
        for (int k = 0; k < 7; k++) {
            six.put(0, k, six.ways(0, k));
        }
        EDGES.due("-4 is not 252", six.check(0, 1), 5);
        six.sheet(0, SHORTS, 60);
        for (int k = 0; k < 60; k++) {
            six.put(0, k, six.ways(0, k));
        }
        EDGES.due("what wraps around in shorts", six.check(0, 1), firstAbove(six, 32767));
    }

    private static int firstAbove(VectorWays x, int greatest) {
        for (int y = 0; y <= 60; y++) {
            if (x.ways(0, y) > greatest) {
                return y;
            }
        }
        return -1;
    }

    private static void more() {
        EDGES.promise(29, "Those a and b (0 to 4 each, not both 0) for which a TABLE of bytes or shorts is all "
            + "FREE WAYS, if a PART of these came: what 0 how many, 1 the first by a, then b: 10 a and b");
        VectorWays any = withSheet(0, BYTES, 0, 1, 0);
        EDGES.due("a row of none: all 24", any.more(0, 1, 0), 24);
        EDGES.due("the first of all is (0, 1)", any.more(0, 1, 1), 1);
        VectorWays one = withSheet(0, SHORTS, 1);
        one.put(0, 0, 1);
        EDGES.due("nought is made: all 24", one.more(0, 10, 0), 24);
        EDGES.due("no part yet", one.more(0, 10, 1), 1);
        // (0, 1) to (0, 3) aren't made: by none that goes 1 to 3 up alone.
        VectorWays up = withSheet(0, BYTES, 4);
        up.put(0, 0, 1);
        EDGES.due("all but three", up.more(0, 1, 0), 21);
        EDGES.due("the first is (0, 4)", up.more(0, 1, 1), 4);
        up.put(0, 3, 1);
        EDGES.due("one fits", up.more(0, 1, 0), 1);
        EDGES.due("it is (0, 3)", up.more(0, 1, 1), 3);

        EDGES.promise(29, "NONE (what 1): none");
        one.put(0, 0, 0);
        EDGES.due("nought is always made: how many", one.more(0, 10, 0), 0);
        EDGES.due("nought is always made: the first", one.more(0, 10, 1), Edges.NONE);
        VectorWays laid = withSheet(0, BYTES, 25, 1, 0, 0, 1);
        laid.lay(0, 5);
        EDGES.due("none more is needed: how many", laid.more(0, 5, 0), 0);
        EDGES.due("none more is needed: the first", laid.more(0, 5, 1), Edges.NONE);
        EDGES.due("no part came", laid.many(0), 2);
        EDGES.due("no change", laid.many(3), 2);
    }

    private static void moreOfEach() {
        EDGES.promise(29, "1 the first by a, then b: 10 a and b");
        for (int a = 0; a <= 4; a++) {
            for (int b = a == 0 ? 1 : 0; b <= 4; b++) {
                VectorWays x = withSheet(2, SHORTS, 60, 2, 1, a, b);
                x.lay(2, 10);
                x.drop();
                EDGES.due("(" + a + ", " + b + ") is needed", x.more(2, 10, 1), 10 * a + b);
                EDGES.due("none but it", x.more(2, 10, 0), 1);
                Due.feed(x, "not any");
                x.rule(0);
                EDGES.due("whatever rules let", x.more(2, 10, 1), 10 * a + b);
            }
        }
        VectorWays two = withSheet(0, BYTES, 3, 1, 1);
        two.put(0, 0, 1);
        EDGES.due("all but (0, 1) and (1, 0)", two.more(0, 2, 0), 22);
        EDGES.due("the first of them is (0, 2)", two.more(0, 2, 1), 2);
        VectorWays six = withSheet(0, BYTES, 3, 1, 1, 1, 1, 1, 1, 1, 1, 1, 1, 1, 1);
        six.put(0, 0, 1);
        six.put(0, 1, 1);
        EDGES.due("of six parts: if one more came", six.more(0, 2, 1), 10);
        EDGES.due("none came", six.many(0), 6);
    }

    private static void tablesRefused() {
        EDGES.promise(27, "BAD: sheet, w; -11; -13");
        VectorWays x = withSheet(0, BYTES, 3, 1, 0);
        x.sheet(1, SHORTS, 3);
        x.sheet(2, LONGS, 3);
        for (int wrong : Edges.outside(0, 3)) {
            EDGES.due("lay(" + wrong + ", 1)", x.lay(wrong, 1), Edges.BAD);
        }
        for (int sheet = 0; sheet <= 3; sheet++) {
            for (int wrong : Edges.outside(1, 10)) {
                EDGES.due("lay(" + sheet + ", " + wrong + ")", x.lay(sheet, wrong), Edges.BAD);
            }
        }
        EDGES.due("longs", x.lay(2, 1), Edges.OTHER_SORT);
        EDGES.due("missing", x.lay(3, 10), Edges.MISSING);

        EDGES.promise(28, "BAD: sheet, w; -11; -13");
        for (int wrong : Edges.outside(0, 3)) {
            EDGES.due("check(" + wrong + ", 1)", x.check(wrong, 1), Edges.BAD);
        }
        for (int sheet = 0; sheet <= 3; sheet++) {
            for (int wrong : Edges.outside(1, 10)) {
                EDGES.due("check(" + sheet + ", " + wrong + ")", x.check(sheet, wrong), Edges.BAD);
            }
        }
        EDGES.due("longs", x.check(2, 1), Edges.OTHER_SORT);
        EDGES.due("missing", x.check(3, 10), Edges.MISSING);

        EDGES.promise(29, "BAD: sheet, w, what; -11; -13");
        for (int wrong : Edges.outside(0, 3)) {
            EDGES.due("more(" + wrong + ", 1, 0)", x.more(wrong, 1, 0), Edges.BAD);
        }
        for (int sheet = 0; sheet <= 3; sheet++) {
            for (int wrong : Edges.outside(1, 10)) {
                EDGES.due("more(" + sheet + ", " + wrong + ", 1)", x.more(sheet, wrong, 1), Edges.BAD);
            }
            for (int wrong : Edges.outside(0, 1)) {
                EDGES.due("more(" + sheet + ", 1, " + wrong + ")", x.more(sheet, 1, wrong), Edges.BAD);
            }
        }
        EDGES.due("longs", x.more(2, 1, 0), Edges.OTHER_SORT);
        EDGES.due("longs", x.more(2, 10, 1), Edges.OTHER_SORT);
        EDGES.due("missing", x.more(3, 1, 0), Edges.MISSING);
        EDGES.due("missing", x.more(3, 10, 1), Edges.MISSING);
        EDGES.due("the rows stay", x.item(0, BYTES, 0), 0);
    }
}
