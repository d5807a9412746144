import java.math.BigInteger;

/** The bounds that promises 11 to 15 name. */
public final class WaysEdgesTest {
    private static final BigInteger GREATEST = BigInteger.valueOf(Long.MAX_VALUE);
    private static final Edges EDGES = new Edges();

    public static void main(String[] args) {
        ways();
        free();
        freeAfterChanges();
        strict();
        strictAfterChanges();
        way();
        wayRefused();
        foldOfNone();
        foldRefused();
        foldOfPowers();
        foldOfSums();
        foldOfWhatDoesNotCome();
        EDGES.end();
    }

    private static void ways() {
        EDGES.promise(11, "How many WAYS there are to make a POINT (x, y: 0 to 60)");
        VectorWays none = new VectorWays();
        EDGES.due("no parts: nought is made by taking none", none.ways(0, 0), 1);
        EDGES.due("no parts: nothing else is", none.ways(0, 1), 0);
        EDGES.due("no parts: nothing else is", none.ways(1, 0), 0);
        EDGES.due("no parts: nothing else is", none.ways(60, 60), 0);
        VectorWays x = Edges.ruled("is 60", 1, 0, 0, 1, 0, 1);
        EDGES.due("ways(60, 60)", x.ways(60, 60), 61);
        EDGES.due("ways(59, 60)", x.ways(59, 60), 0);
        EDGES.due("ways(60, 0)", x.ways(60, 0), 1);
        EDGES.due("ways(0, 60)", x.ways(0, 60), 0);
        EDGES.due("ways(0, 0): none may not be taken", x.ways(0, 0), 0);
        Due.feed(x, "most 59");
        x.rule(0);
        EDGES.due("most 59: ways(60, 0)", x.ways(60, 0), 0);
        EDGES.due("most 59: ways(59, 0)", x.ways(59, 0), 1);
        EDGES.due("most 59: ways(0, 0)", x.ways(0, 0), 1);

        EDGES.promise(11, "NO");
        for (int wrong : Edges.outside(0, 60)) {
            EDGES.due("ways(" + wrong + ", 0)", x.ways(wrong, 0), Edges.NO);
            EDGES.due("ways(0, " + wrong + ")", x.ways(0, wrong), Edges.NO);
            EDGES.due("ways(" + wrong + ", 60)", x.ways(wrong, 60), Edges.NO);
            EDGES.due("no parts: ways(60, " + wrong + ")", none.ways(60, wrong), Edges.NO);
        }
    }

    private static void free() {
        EDGES.promise(12, "How many FREE WAYS");
        VectorWays none = new VectorWays();
        EDGES.due("no parts: nought", none.free(0, 0), 1);
        EDGES.due("no parts: nothing else", none.free(0, 1), 0);
        EDGES.due("no parts: nothing else", none.free(60, 60), 0);
        VectorWays x = Edges.ruled("not any", 1, 0, 0, 1, 0, 1);
        EDGES.due("a rule lets none", x.ways(60, 60), 0);
        EDGES.due("free(60, 60) all the same", x.free(60, 60), 61);
        EDGES.due("free(60, 0)", x.free(60, 0), 1);
        EDGES.due("free(0, 60)", x.free(0, 60), 61);
        EDGES.due("free(0, 0)", x.free(0, 0), 1);

        EDGES.promise(12, "NO: likewise");
        for (int wrong : Edges.outside(0, 60)) {
            EDGES.due("free(" + wrong + ", 0)", x.free(wrong, 0), Edges.NO);
            EDGES.due("free(0, " + wrong + ")", x.free(0, wrong), Edges.NO);
            EDGES.due("free(60, " + wrong + ")", x.free(60, wrong), Edges.NO);
            EDGES.due("no parts: free(" + wrong + ", 60)", none.free(wrong, 60), Edges.NO);
        }
    }

    private static void freeAfterChanges() {
        EDGES.promise(12, "How many FREE WAYS");
        VectorWays x = Due.with(1, 0);
        EDGES.due("one part: free(5, 5)", x.free(5, 5), 0);
        x.part(0, 1);
        EDGES.due("another comes: free(5, 5)", x.free(5, 5), 1);
        x.arc(0, 2);
        EDGES.due("an arc comes: free(5, 5)", x.free(5, 5), 6);
        x.lot(1);
        EDGES.due("(3, 1) by lot: free(5, 5)", x.free(5, 5), 6 + 3);
        x.undo();
        EDGES.due("it goes: free(5, 5)", x.free(5, 5), 6);
        EDGES.due("it goes: strict(5, 5)", x.strict(5, 5), 4);
        x.keep();
        x.drop();
        EDGES.due("the arc goes: free(5, 5)", x.free(5, 5), 1);
        EDGES.due("the arc goes: free(9, 4)", x.free(9, 4), 1);
        EDGES.due("the arc goes: free(4, 9)", x.free(4, 9), 1);
        x.drop();
        EDGES.due("one part: free(9, 9)", x.free(9, 9), 0);
        EDGES.due("one part: free(9, 0)", x.free(9, 0), 1);
        x.again();
        EDGES.due("three parts again: free(9, 4)", x.free(9, 4), 5);
        EDGES.due("three parts again: free(4, 9)", x.free(4, 9), 5);
    }

    private static void strictAfterChanges() {
        EDGES.promise(13, "How many FREE WAYS that take some of each PART");
        VectorWays x = Due.with(1, 0, 0, 1, 2, 3, 4, 4);
        EDGES.due("four parts: strict(7, 8)", x.strict(7, 8), 1);
        EDGES.due("four parts: strict(6, 8)", x.strict(6, 8), 0);
        x.drop();
        EDGES.due("(4, 4) goes: strict(3, 4)", x.strict(3, 4), 1);
        EDGES.due("(4, 4) goes: strict(7, 8)", x.strict(7, 8), 2);
        x.drop();
        EDGES.due("(2, 3) goes: strict(1, 1)", x.strict(1, 1), 1);
        x.drop();
        EDGES.due("(0, 1) goes: strict(1, 0)", x.strict(1, 0), 1);
        EDGES.due("(0, 1) goes: strict(1, 1)", x.strict(1, 1), 0);
        x.drop();
        EDGES.due("no parts any more: strict(0, 0)", x.strict(0, 0), 1);
        x.undo();
        EDGES.due("(1, 0) comes again: strict(0, 0)", x.strict(0, 0), 0);
        EDGES.due("(1, 0) comes again: strict(60, 0)", x.strict(60, 0), 1);
    }

    private static void strict() {
        EDGES.promise(13, "How many FREE WAYS that take some of each PART");
        VectorWays none = new VectorWays();
        EDGES.due("no parts: nought takes some of each", none.strict(0, 0), 1);
        EDGES.due("no parts: nothing else", none.strict(1, 1), 0);
        VectorWays x = Edges.ruled("is 0", 4, 3, 1, 1, 2, 4);
        EDGES.due("one of each", x.strict(7, 8), 1);
        EDGES.due("less across than one of each", x.strict(6, 8), 0);
        EDGES.due("less up than one of each", x.strict(7, 7), 0);
        EDGES.due("one more of (1, 1)", x.strict(8, 9), 1);
        EDGES.due("nought takes none", x.strict(0, 0), 0);
        EDGES.due("free ways to nought", x.free(0, 0), 1);
        VectorWays far = Due.with(4, 4, 4, 4, 4, 4, 4, 4, 4, 4, 4, 4);
        EDGES.due("fewer than six", far.strict(20, 20), 0);
        EDGES.due("six", far.strict(24, 24), 1);
        EDGES.due("fifteen: nine more of any", far.strict(60, 60), 2002);
        VectorWays wide = Due.with(1, 0, 0, 1);
        EDGES.due("strict(60, 60)", wide.strict(60, 60), 1);
        EDGES.due("strict(60, 1)", wide.strict(60, 1), 1);
        EDGES.due("strict(60, 0)", wide.strict(60, 0), 0);
        EDGES.due("strict(0, 60)", wide.strict(0, 60), 0);

        EDGES.promise(13, "NO: likewise");
        for (int wrong : Edges.outside(0, 60)) {
            EDGES.due("strict(" + wrong + ", 8)", x.strict(wrong, 8), Edges.NO);
            EDGES.due("strict(7, " + wrong + ")", x.strict(7, wrong), Edges.NO);
            EDGES.due("strict(60, " + wrong + ")", x.strict(60, wrong), Edges.NO);
            EDGES.due("no parts: strict(" + wrong + ", 60)", none.strict(wrong, 60), Edges.NO);
        }
    }

    private static void way() {
        EDGES.promise(14, "How many of a PART the i-th WAY (from 0 on) to make a POINT takes");
        VectorWays x = Edges.ruled("by 20", 1, 0, 1, 1, 0, 1, 1, 0);
        // (60, 1): part 0 takes 0, 20, 40 or 60; part 1 takes none or one; part 2 the other; part 3 the rest.
        int[][] due = {{0, 0, 1, 60}, {0, 1, 0, 59}, {20, 0, 1, 40}, {20, 1, 0, 39}, {40, 0, 1, 20}, {40, 1, 0, 19},
            {60, 0, 1, 0}};
        EDGES.due("ways(60, 1)", x.ways(60, 1), due.length);
        for (int i = 0; i < due.length; i++) {
            for (int p = 0; p < 4; p++) {
                EDGES.due("way(60, 1, " + i + ", " + p + ")", x.way(60, 1, i, p), due[i][p]);
            }
        }
        EDGES.due("the only way to nought takes none", x.way(0, 0, 0, 3), 0);
        VectorWays far = Due.with(0, 1, 0, 1, 0, 1, 0, 1, 0, 1, 0, 1);
        EDGES.due("the first of 8259888 ways", far.way(0, 60, 0, 5), 60);
        EDGES.due("the last of 8259888 ways", far.way(0, 60, 8_259_887, 0), 60);

        EDGES.promise(14, "NONE: there are not so many");
        EDGES.due("as many as there are", x.way(60, 1, 7, 0), Edges.NONE);
        EDGES.due("more than there are", x.way(60, 1, 8, 0), Edges.NONE);
        EDGES.due("far more", x.way(60, 1, Edges.MAX, 3), Edges.NONE);
        EDGES.due("a point that can't be made", Due.with(2, 2).way(3, 3, 0, 0), Edges.NONE);
        EDGES.due("a rule that shuts it out", Edges.ruled("is 1", 1, 0).way(0, 0, 0, 0), Edges.NONE);
        EDGES.due("as many as 8259888", far.way(0, 60, 8_259_888, 0), Edges.NONE);
    }

    private static void wayRefused() {
        EDGES.promise(14, "BAD: x, y (0 to 60), i below 0, part");
        VectorWays x = Due.with(1, 0, 0, 1);
        EDGES.due("way(60, 60, 0, 1)", x.way(60, 60, 0, 1), 60);
        for (int wrong : Edges.outside(0, 60)) {
            EDGES.due("way(" + wrong + ", 0, 0, 0)", x.way(wrong, 0, 0, 0), Edges.BAD);
            EDGES.due("way(0, " + wrong + ", 0, 0)", x.way(0, wrong, 0, 0), Edges.BAD);
        }
        for (int wrong : Edges.outside(0, 1)) {
            EDGES.due("way(5, 5, 0, " + wrong + ")", x.way(5, 5, 0, wrong), Edges.BAD);
        }
        EDGES.due("way(5, 5, -1, 0)", x.way(5, 5, -1, 0), Edges.BAD);
        EDGES.due("way(5, 5, MIN, 0)", x.way(5, 5, Edges.MIN, 0), Edges.BAD);
        EDGES.due("no part at all", new VectorWays().way(0, 0, 0, 0), Edges.BAD);

        EDGES.promise(14, "BAD: x, y (0 to 60), i below 0, part; NONE: there are not so many");
        EDGES.due("BAD is named first", x.way(61, 0, 9, 0), Edges.BAD);
        EDGES.due("BAD is named first", x.way(0, -1, 9, 0), Edges.BAD);
        EDGES.due("BAD is named first", x.way(5, 5, 9, 2), Edges.BAD);
        EDGES.due("BAD is named first", x.way(5, 5, Edges.MAX, -1), Edges.BAD);
    }

    private static void foldOfNone() {
        EDGES.promise(15, "Of all WAYS to make a POINT (x, y: 0 to 30): 0 their WORTHS together (0: there is none)");
        VectorWays x = Edges.ruled("not is 0", 1, 1, 3, 0);
        EDGES.due("no way: fold(0, 0, 0)", x.fold(0, 0, 0), 0);
        EDGES.due("no way: fold(0, 30, 0)", x.fold(0, 30, 0), 0);
        EDGES.due("one way: fold(0, 30, 30)", x.fold(0, 30, 30), 1);

        EDGES.promise(15, "NONE: there is no WAY (1 to 3)");
        for (int what = 1; what <= 3; what++) {
            EDGES.due("no way: fold(" + what + ", 0, 0)", x.fold(what, 0, 0), Edges.NONE);
            EDGES.due("no way: fold(" + what + ", 30, 0)", x.fold(what, 30, 0), Edges.NONE);
            EDGES.due("no way: fold(" + what + ", 29, 30)", x.fold(what, 29, 30), Edges.NONE);
        }

        EDGES.promise(15, "1 the greatest COPIES, 2 the fewest COPIES, 3 the greatest WORTH");
        long[] ofNoPart = {1, 0, 0, 1};
        for (int what = 0; what <= 3; what++) {
            EDGES.due("none is taken: fold(" + what + ", 0, 0)", Due.with(1, 1).fold(what, 0, 0), ofNoPart[what]);
            EDGES.due("no parts: fold(" + what + ", 0, 0)", new VectorWays().fold(what, 0, 0), ofNoPart[what]);
            EDGES.due("no parts: fold(" + what + ", 1, 0)", new VectorWays().fold(what, 1, 0), what == 0 ? 0 : Edges.NONE);
        }
        VectorWays sixty = Due.with(1, 0, 0, 1, 3, 4, 4, 3);
        EDGES.due("as many copies as can be", sixty.fold(1, 30, 30), 60);
        EDGES.due("as few as can be", sixty.fold(2, 30, 30), 12);
        EDGES.due("of weights of 1", sixty.fold(3, 30, 30), 1);
    }

    private static void foldRefused() {
        EDGES.promise(15, "NO: what, x, y");
        VectorWays x = Due.with(1, 0, 0, 1);
        for (int what = 0; what <= 3; what++) {
            for (int wrong : Edges.outside(0, 30)) {
                EDGES.due("fold(" + what + ", " + wrong + ", 0)", x.fold(what, wrong, 0), Edges.NO);
                EDGES.due("fold(" + what + ", 30, " + wrong + ")", x.fold(what, 30, wrong), Edges.NO);
            }
            EDGES.due("fold(" + what + ", 30, 30)", x.fold(what, 30, 30), what == 1 || what == 2 ? 60 : 1);
        }
        for (int wrong : Edges.outside(0, 3)) {
            EDGES.due("fold(" + wrong + ", 1, 1)", x.fold(wrong, 1, 1), Edges.NO);
        }

        EDGES.promise(15, "NO: what, x, y; NONE: there is no WAY (1 to 3)");
        EDGES.due("NO is named first", new VectorWays().fold(1, 31, 0), Edges.NO);
        EDGES.due("NO is named first", new VectorWays().fold(4, 1, 0), Edges.NO);
        EDGES.due("NO is named first", new VectorWays().fold(3, 0, -1), Edges.NO);
    }

    private static void foldOfPowers() {
        EDGES.promise(15, "OVER: it is above 9223372036854775807");
        for (int w = 1; w <= 99; w++) {
            VectorWays x = Due.with(1, 0, 0, 1);
            x.weigh(0, w);
            x.weigh(1, 100 - w);
            for (int k = 0; k <= 30; k++) {
                BigInteger due = BigInteger.valueOf(w).pow(k);
                EDGES.due(w + "^" + k + " together", x.fold(0, k, 0), told(due));
                EDGES.due(w + "^" + k + " at most", x.fold(3, k, 0), told(due));
                due = due.multiply(BigInteger.valueOf(100 - w).pow(30 - k));
                EDGES.due(w + "^" + k + " by " + (100 - w) + "^" + (30 - k), x.fold(0, k, 30 - k), told(due));
                EDGES.due(w + "^" + k + " by " + (100 - w) + "^" + (30 - k), x.fold(3, k, 30 - k), told(due));
            }
            EDGES.due("copies are never too many", x.fold(1, 30, 30), 60);
            EDGES.due("copies are never too many", x.fold(2, 30, 30), 60);
        }
    }

    private static long told(BigInteger worth) {
        return worth.compareTo(GREATEST) > 0 ? Edges.OVER : worth.longValueExact();
    }

    private static void foldOfSums() {
        EDGES.promise(15, "OVER: it is above 9223372036854775807");
        // (0, 1) makes 8^20, one (1, 0) that weighs 4 makes 2^62 of it; each further (1, 0) makes w by 8^20 more.
        for (int w = 1; w <= 4; w++) {
            VectorWays x = Due.with(0, 1, 1, 0);
            x.weigh(0, 8);
            x.weigh(1, 4);
            for (int further = 1; further <= 4; further++) {
                x.part(1, 0);
                x.weigh(1 + further, w);
                int times = 4 + w * further;
                BigInteger due = BigInteger.valueOf(8).pow(20).multiply(BigInteger.valueOf(times));
                EDGES.due("8^20 by " + times + " together", x.fold(0, 1, 20), told(due));
                EDGES.due("8^20 by 4 at most", x.fold(3, 1, 20), 1L << 62);
                EDGES.due("21 copies", x.fold(1, 1, 20), 21);
            }
        }
        // 1 + 8 + .. + 8^20, by 1 + 2 + 4: the greatest number that is told.
        VectorWays brim = Due.with(1, 0, 1, 0, 0, 1, 0, 1);
        brim.weigh(0, 2);
        brim.weigh(2, 8);
        EDGES.due("9223372036854775807", brim.fold(0, 2, 20), Long.MAX_VALUE);
        brim.part(2, 4);
        EDGES.due("more by 1 + 8 + .. + 8^16", brim.fold(0, 2, 20), Edges.OVER);
        rule(brim, 4, "is 0");
        EDGES.due("9223372036854775807 again", brim.fold(0, 2, 20), Long.MAX_VALUE);
        rule(brim, 4, "is 1");
        EDGES.due("1 + 8 + .. + 8^16", brim.fold(0, 2, 20), ((1L << 51) - 1) / 7);
    }

    private static void rule(VectorWays x, int part, String text) {
        Due.feed(x, text);
        x.rule(part);
    }

    private static void foldOfWhatDoesNotCome() {
        EDGES.promise(15, "OVER: it is above 9223372036854775807");
        VectorWays x = Edges.ruled("is 0 or is 2", 1, 1, 0, 1);
        x.weigh(0, 99);
        x.weigh(1, 99);
        EDGES.due("99^30", x.fold(0, 0, 30), Edges.OVER);
        rule(x, 1, "most 9");
        EDGES.due("(2, 9): 99^2 by 99^7", x.fold(0, 2, 9), BigInteger.valueOf(99).pow(9).longValueExact());
        EDGES.due("(2, 10): 99^10", x.fold(0, 2, 10), Edges.OVER);
        EDGES.due("(2, 12): a rule lets no way", x.fold(0, 2, 12), 0);
        EDGES.due("(2, 12): a rule lets no way", x.fold(3, 2, 12), Edges.NONE);
        EDGES.due("(1, 30): a rule lets no way", x.fold(3, 1, 30), Edges.NONE);
    }
}
