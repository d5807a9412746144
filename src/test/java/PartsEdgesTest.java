/** The bounds that promises 1 to 10 and 32 name. */
public final class PartsEdgesTest {
    private static final Edges EDGES = new Edges();

    public static void main(String[] args) {
        newObject();
        part();
        partsAreSix();
        arc();
        drop();
        weigh();
        partOf();
        feed();
        feedUntilFull();
        rule();
        ruleFaults();
        lets();
        undo();
        undoNothing();
        many();
        EDGES.end();
    }

    private static void newObject() {
        EDGES.promise(1, "No PARTS");
        VectorWays x = new VectorWays();
        EDGES.due("many(0)", x.many(0), 0);
        EDGES.due("drop()", x.drop(), Edges.NONE);
        EDGES.due("partOf(0, 0)", x.partOf(0, 0), Edges.BAD);
        EDGES.due("many(1): no ray", x.many(1), 0);
        EDGES.due("the first part is 0", x.part(1, 0), 0);

        EDGES.promise(1, "nothing is kept");
        x = new VectorWays();
        EDGES.due("again()", x.again(), Edges.NONE);
        EDGES.due("undo()", x.undo(), Edges.NONE);
        EDGES.due("many(3)", x.many(3), 0);
        EDGES.due("many(4)", x.many(4), 0);
        x.part(2, 3);
        EDGES.due("again() with a part", x.again(), Edges.NONE);
        EDGES.due("the part stays", x.many(0), 1);
        EDGES.due("what another object keeps isn't kept here", keptElsewhere().again(), Edges.NONE);
    }

    private static VectorWays keptElsewhere() {
        Due.with(1, 1).keep();
        return new VectorWays();
    }

    private static void part() {
        EDGES.promise(2, "A PART (a ACROSS, b UP): its number");
        for (int a = 0; a <= 4; a++) {
            for (int b = a == 0 ? 1 : 0; b <= 4; b++) {
                VectorWays x = Due.with(1, 1);
                EDGES.due("part(" + a + ", " + b + ")", x.part(a, b), 1);
                EDGES.due("its a of (" + a + ", " + b + ")", x.partOf(1, 0), a);
                EDGES.due("its b of (" + a + ", " + b + ")", x.partOf(1, 1), b);
            }
        }

        EDGES.promise(2, "BAD");
        VectorWays x = new VectorWays();
        EDGES.due("part(0, 0)", x.part(0, 0), Edges.BAD);
        for (int wrong : Edges.outside(0, 4)) {
            EDGES.due("part(" + wrong + ", 0)", x.part(wrong, 0), Edges.BAD);
            EDGES.due("part(" + wrong + ", 1)", x.part(wrong, 1), Edges.BAD);
            EDGES.due("part(0, " + wrong + ")", x.part(0, wrong), Edges.BAD);
            EDGES.due("part(4, " + wrong + ")", x.part(4, wrong), Edges.BAD);
        }
        EDGES.due("no part came", x.many(0), 0);
        EDGES.due("no change either", x.many(3), 0);
    }

    private static void partsAreSix() {
        EDGES.promise(2, "BAD; FULL");
        VectorWays x = new VectorWays();
        for (int i = 0; i < 6; i++) {
            EDGES.due("part " + i, x.part(1, i % 5), i);
        }
        EDGES.due("a seventh", x.part(1, 1), Edges.FULL);
        EDGES.due("still six", x.many(0), 6);
        EDGES.due("no seventh change", x.many(3), 6);
        EDGES.due("no part 6", x.partOf(6, 0), Edges.BAD);
        EDGES.due("BAD is named first", x.part(5, 1), Edges.BAD);
        EDGES.due("BAD is named first", x.part(0, 0), Edges.BAD);
        x.drop();
        EDGES.due("room again for part 5", x.part(4, 4), 5);
        EDGES.due("and full again", x.part(4, 4), Edges.FULL);
        x.undo();
        EDGES.due("undone: room again for part 5", x.part(3, 4), 5);
    }

    private static void arc() {
        EDGES.promise(3, "AN ARC comes: the number of its PART");
        VectorWays x = Due.with(4, 4);
        int[][] arcs = {{0, 1, 1, 0}, {0, 2, 1, 1}, {1, 2, 0, 1}};
        for (int i = 0; i < 3; i++) {
            String call = "arc(" + arcs[i][0] + ", " + arcs[i][1] + ")";
            EDGES.due(call, x.arc(arcs[i][0], arcs[i][1]), i + 1);
            EDGES.due("a of " + call, x.partOf(i + 1, 0), arcs[i][2]);
            EDGES.due("b of " + call, x.partOf(i + 1, 1), arcs[i][3]);
        }

        EDGES.promise(3, "BAD");
        x = new VectorWays();
        for (int from = -2; from <= 4; from++) {
            for (int to = -2; to <= 4; to++) {
                if (from < 0 || to > 2 || from >= to) {
                    EDGES.due("arc(" + from + ", " + to + ")", x.arc(from, to), Edges.BAD);
                }
            }
        }
        EDGES.due("arc(MIN, MAX)", x.arc(Edges.MIN, Edges.MAX), Edges.BAD);
        EDGES.due("arc(MIN, 1)", x.arc(Edges.MIN, 1), Edges.BAD);
        EDGES.due("arc(1, MAX)", x.arc(1, Edges.MAX), Edges.BAD);
        EDGES.due("arc(MAX, MIN)", x.arc(Edges.MAX, Edges.MIN), Edges.BAD);
        EDGES.due("no part came", x.many(0), 0);

        EDGES.promise(3, "BAD; FULL");
        x = Due.with(1, 0, 0, 1, 1, 1, 1, 0, 0, 1);
        EDGES.due("the sixth", x.arc(0, 1), 5);
        EDGES.due("a seventh", x.arc(0, 1), Edges.FULL);
        EDGES.due("a seventh", x.arc(0, 2), Edges.FULL);
        EDGES.due("a seventh", x.arc(1, 2), Edges.FULL);
        EDGES.due("BAD is named first", x.arc(1, 1), Edges.BAD);
        EDGES.due("BAD is named first", x.arc(0, 3), Edges.BAD);
        EDGES.due("still six", x.many(0), 6);
        EDGES.due("no seventh change", x.many(3), 6);
    }

    private static void drop() {
        EDGES.promise(4, "The last PART goes: how many there are");
        VectorWays x = Due.with(1, 0, 2, 0, 3, 0, 4, 0, 1, 1, 1, 2);
        for (int left = 5; left >= 0; left--) {
            EDGES.due("drop()", x.drop(), left);
            EDGES.due("it went", x.partOf(left, 0), Edges.BAD);
            EDGES.due("the one ahead of it stays", x.partOf(left - 1, 2), left > 0 ? 1 : Edges.BAD);
        }

        EDGES.promise(4, "NONE: there is none");
        EDGES.due("drop() once more", x.drop(), Edges.NONE);
        EDGES.due("drop() once more", x.drop(), Edges.NONE);
        EDGES.due("no part", x.many(0), 0);
        EDGES.due("six came and six went, no change else", x.many(3), 12);
        EDGES.due("a new object", new VectorWays().drop(), Edges.NONE);
    }

    private static void weigh() {
        EDGES.promise(5, "WEIGHT of a PART becomes w: what it was");
        VectorWays x = Due.with(1, 0, 0, 1);
        EDGES.due("1 at first", x.weigh(0, 99), 1);
        EDGES.due("the greatest", x.partOf(0, 2), 99);
        EDGES.due("what it was", x.weigh(0, 1), 99);
        EDGES.due("the least", x.partOf(0, 2), 1);
        EDGES.due("the last part", x.weigh(1, 98), 1);
        EDGES.due("the other's stays", x.partOf(0, 2), 1);

        EDGES.promise(5, "BAD");
        for (int wrong : Edges.outside(1, 99)) {
            EDGES.due("weigh(1, " + wrong + ")", x.weigh(1, wrong), Edges.BAD);
        }
        for (int wrong : Edges.outside(0, 1)) {
            EDGES.due("weigh(" + wrong + ", 5)", x.weigh(wrong, 5), Edges.BAD);
        }
        EDGES.due("what it was stays", x.partOf(1, 2), 98);
        EDGES.due("no change", x.many(3), 5);
        EDGES.due("no part yet", new VectorWays().weigh(0, 1), Edges.BAD);
        x.drop();
        EDGES.due("a part that went", x.weigh(1, 5), Edges.BAD);
    }

    private static void partOf() {
        EDGES.promise(6, "Of a PART: 0 a, 1 b, 2 WEIGHT, 3 its RAY, 4 how many of the numbers 0 to 60 its RULE lets");
        VectorWays x = Due.with(4, 0, 0, 4, 1, 1, 1, 1, 1, 2, 3, 4);
        x.weigh(5, 99);
        Due.feed(x, "least 60");
        x.rule(5);
        int[][] due = {{4, 0, 1, 0, 61}, {0, 4, 1, 4, 61}, {1, 1, 1, 1, 61}, {1, 1, 1, 1, 61}, {1, 2, 1, 3, 61},
            {3, 4, 99, 2, 1}};
        for (int p = 0; p < 6; p++) {
            for (int what = 0; what <= 4; what++) {
                EDGES.due("partOf(" + p + ", " + what + ")", x.partOf(p, what), due[p][what]);
            }
        }
        Due.feed(x, "least 61");
        x.rule(5);
        EDGES.due("a rule that lets none of them", x.partOf(5, 4), 0);

        EDGES.promise(6, "BAD");
        for (int wrong : Edges.outside(0, 4)) {
            EDGES.due("partOf(5, " + wrong + ")", x.partOf(5, wrong), Edges.BAD);
        }
        for (int wrong : Edges.outside(0, 5)) {
            EDGES.due("partOf(" + wrong + ", 0)", x.partOf(wrong, 0), Edges.BAD);
            EDGES.due("partOf(" + wrong + ", 3)", x.partOf(wrong, 3), Edges.BAD);
        }
        EDGES.due("no part yet", new VectorWays().partOf(0, 3), Edges.BAD);
        x.drop();
        EDGES.due("a part that went", x.partOf(5, 2), Edges.BAD);
    }

    private static void feed() {
        EDGES.promise(7, "The n lowest bytes of a number come to THE TAPE, the lowest first: how many it has");
        for (int n = 1; n <= 8; n++) {
            EDGES.due("feed(.., " + n + ")", new VectorWays().feed(-1L, n), n);
        }
        VectorWays x = Due.with(1, 0);
        EDGES.due("\"is\", and higher bytes that don't come", x.feed(Due.eight("isany or"), 2), 2);
        EDGES.due("a blank and \"7\"", x.feed(Due.eight(" 7777777"), 2), 4);
        EDGES.due("the rule is \"is 7\"", x.rule(0), 1);
        EDGES.due("so it lets 7", x.lets(0, 7), 1);
        EDGES.due("all eight, the highest last", x.feed(Due.eight("is    42"), 8), 8);
        EDGES.due("the rule is \"is 42\"", x.rule(0), 1);
        EDGES.due("so it lets 42", x.lets(0, 42), 1);
        EDGES.due("bytes above 127", x.feed(Due.eight("any\u00ff\u0080"), 5), 5);
        EDGES.due("stand on the tape", x.rule(0), -103);

        EDGES.promise(7, "BAD: n is not 1 to 8");
        x = Edges.withBlanks(3);
        for (int wrong : Edges.outside(1, 8)) {
            EDGES.due("feed(.., " + wrong + ")", x.feed(Due.eight("any any "), wrong), Edges.BAD);
        }
        EDGES.due("nothing came", x.many(4), 3);
    }

    private static void feedUntilFull() {
        EDGES.promise(7, "FULL");
        for (int n = 1; n <= 8; n++) {
            VectorWays x = Edges.withBlanks(101 - n);
            EDGES.due(n + " to " + (101 - n), x.feed(Due.eight("zzzzzzzz"), n), Edges.FULL);
            EDGES.due("nothing came", x.many(4), 101 - n);
            if (n > 1) {
                EDGES.due(n - 1 + " to " + (101 - n), x.feed(Due.eight("       "), n - 1), 100);
            }
            EDGES.due("one to 100", x.feed(32, 1), Edges.FULL);
            EDGES.due("all are blanks", x.rule(0), -200);
            EDGES.due("room again", x.feed(32, 8), 8);
        }

        EDGES.promise(7, "BAD: n is not 1 to 8; FULL");
        VectorWays full = Edges.withBlanks(100);
        EDGES.due("BAD is named first", full.feed(32, 9), Edges.BAD);
        EDGES.due("BAD is named first", full.feed(32, 0), Edges.BAD);
        EDGES.due("BAD is named first", full.feed(32, Edges.MAX), Edges.BAD);
        EDGES.due("feed(.., 8)", full.feed(32, 8), Edges.FULL);
    }

    private static void rule() {
        EDGES.promise(8, "THE TAPE is the RULE of a PART: how many of the numbers 0 to 60 it lets");
        VectorWays x = Due.with(1, 0, 0, 1);
        Due.feed(x, "not any");
        EDGES.due("none", x.rule(0), 0);
        Due.feed(x, "any");
        EDGES.due("all", x.rule(0), 61);
        Due.feed(x, "is 60");
        EDGES.due("60 is one of them", x.rule(1), 1);
        Due.feed(x, "is 61");
        EDGES.due("61 is not", x.rule(1), 0);
        EDGES.due("the other's rule stays", x.partOf(0, 4), 61);
        EDGES.due("the tape is used up", x.many(4), 0);

        EDGES.promise(8, "BAD (THE TAPE stays)");
        Due.feed(x, "is 4 or");
        for (int wrong : Edges.outside(0, 1)) {
            EDGES.due("rule(" + wrong + ")", x.rule(wrong), Edges.BAD);
        }
        EDGES.due("all its bytes", x.many(4), 7);
        EDGES.due("and one more", x.feed(Due.eight(" is 5"), 5), 12);
        EDGES.due("as they were", x.rule(1), 2);
        VectorWays none = new VectorWays();
        Due.feed(none, "any");
        EDGES.due("no part yet", none.rule(0), Edges.BAD);
        EDGES.due("the tape stays", none.many(4), 3);
        none.part(1, 1);
        EDGES.due("till there is one", none.rule(0), 61);
    }

    private static void ruleFaults() {
        EDGES.promise(8, "-100 less the FAULT");
        EDGES.due("an empty tape", Due.rule(""), -100);
        EDGES.due("the first byte", Due.rule("x"), -100);
        EDGES.due("the end of one byte", Due.rule("("), -101);
        EDGES.due("the last of 100 bytes", Due.rule(" ".repeat(99) + "x"), -199);
        EDGES.due("the end of 100 bytes", Due.rule(" ".repeat(96) + "most"), -200);
        EDGES.due("the end of 100 blanks", Due.rule(" ".repeat(100)), -200);
        EDGES.due("no fault in 100 bytes", Due.rule(" ".repeat(97) + "any"), 61);

        VectorWays x = Edges.ruled("is 8", 1, 0);
        Due.feed(x, "is 9 is 8");
        EDGES.due("a fault behind what could be a rule", x.rule(0), -105);
        EDGES.due("the rule stays", x.lets(0, 8), 1);
        EDGES.due("it doesn't become what stood ahead of the fault", x.lets(0, 9), 0);
        EDGES.due("the tape is used up", x.many(4), 0);
        EDGES.due("no change", x.many(3), 2);
        EDGES.due("nothing of it is left", x.rule(0), -100);
        String[] broken = {"(((", "((((not", "not", "not not not", "is 1 or not", "(is 1 or (not", "any and", "by", "most"};
        for (String text : broken) {
            Due.feed(x, text);
            EDGES.due("the end of \"" + text + "\"", x.rule(0), -100 - text.length());
            Due.feed(x, "is 5");
            EDGES.due("\"is 5\" behind it", x.rule(0), 1);
            EDGES.due("it lets 5", x.lets(0, 5), 1);
            Due.feed(x, text + " ?");
            EDGES.due("the fault of \"" + text + " ?\"", x.rule(0), -101 - text.length());
            Due.feed(x, "((((is 6))))");
            EDGES.due("\"((((is 6))))\" behind it", x.rule(0), 1);
            EDGES.due("it lets 6", x.lets(0, 6), 1);
        }
    }

    private static void lets() {
        EDGES.promise(9, "1 if the RULE of a PART lets k (0 to 60), else 0");
        VectorWays x = Edges.ruled("is 0 or is 60", 1, 0, 0, 1);
        for (int k = 0; k <= 60; k++) {
            EDGES.due("lets(0, " + k + ")", x.lets(0, k), k == 0 || k == 60 ? 1 : 0);
            EDGES.due("lets(1, " + k + ")", x.lets(1, k), 1);
        }

        EDGES.promise(9, "BAD");
        for (int wrong : Edges.outside(0, 60)) {
            EDGES.due("lets(1, " + wrong + ")", x.lets(1, wrong), Edges.BAD);
        }
        for (int wrong : Edges.outside(0, 1)) {
            EDGES.due("lets(" + wrong + ", 0)", x.lets(wrong, 0), Edges.BAD);
        }
        EDGES.due("64 and more", x.lets(0, 64), Edges.BAD);
        EDGES.due("no part yet", new VectorWays().lets(0, 0), Edges.BAD);
    }

    private static void undo() {
        EDGES.promise(10, "The latest CHANGE that is not undone is undone: how many may be undone yet");
        VectorWays x = Due.with(1, 0);
        x.weigh(0, 2);
        x.weigh(0, 3);
        EDGES.due("undo()", x.undo(), 2);
        EDGES.due("the latest", x.partOf(0, 2), 2);
        x.weigh(0, 4);
        EDGES.due("a new one is the latest", x.undo(), 2);
        EDGES.due("what it was", x.partOf(0, 2), 2);
        EDGES.due("what is undone isn't undone again", x.undo(), 1);
        EDGES.due("what it was", x.partOf(0, 2), 1);
        EDGES.due("the last one", x.undo(), 0);
        EDGES.due("no part", x.many(0), 0);
        VectorWays other = Edges.ruled("is 3", 2, 1);
        other.weigh(0, 8);
        EDGES.due("one way to (6, 3)", other.ways(6, 3), 1);
        other.drop();
        other.part(3, 4);
        EDGES.due("another part in its place goes", other.undo(), 4);
        EDGES.due("no way to (6, 3)", other.free(6, 3), 0);
        EDGES.due("what stood there comes again", other.undo(), 3);
        int[] what = {2, 1, 8, 0, 1};
        for (int i = 0; i <= 4; i++) {
            EDGES.due("with all that is its: partOf(0, " + i + ")", other.partOf(0, i), what[i]);
        }
        EDGES.due("one way to (6, 3) again", other.ways(6, 3), 1);
        EDGES.due("one free way to (6, 3) again", other.free(6, 3), 1);
        EDGES.due("none to (3, 4)", other.free(3, 4), 0);

        EDGES.promise(10, "how many may be undone yet");
        VectorWays many = Due.with(1, 0);
        for (int w = 2; w <= 30; w++) {
            many.weigh(0, w);
        }
        EDGES.due("30 changes", many.many(3), 30);
        many.weigh(0, 31);
        EDGES.due("the first of 31 may not be undone", many.many(3), 30);
        for (int left = 29; left >= 0; left--) {
            EDGES.due("undo()", many.undo(), left);
            EDGES.due("weight", many.partOf(0, 2), left + 1);
        }
        EDGES.due("undo() of the first of 31", many.undo(), Edges.NONE);
        EDGES.due("its part stays", many.many(0), 1);
    }

    private static void undoNothing() {
        EDGES.promise(10, "NONE: there is none");
        VectorWays x = new VectorWays();
        EDGES.due("a new object", x.undo(), Edges.NONE);
        x.part(1, 2);
        EDGES.due("the only one", x.undo(), 0);
        EDGES.due("undo() once more", x.undo(), Edges.NONE);
        EDGES.due("many(3)", x.many(3), 0);
        x.part(2, 1);
        x.keep();
        x.again();
        EDGES.due("after again()", x.undo(), Edges.NONE);
        EDGES.due("the part stays", x.many(0), 1);
        VectorWays y = new VectorWays();
        y.seed(5);
        y.feed(32, 1);
        y.sheet(0, 0, 1);
        y.put(0, 0, 9);
        y.lay(0, 1);
        y.keep();
        y.rule(0);
        y.part(0, 0);
        y.drop();
        EDGES.due("what is no change can't be undone", y.undo(), Edges.NONE);
    }

    private static void many() {
        EDGES.promise(32, "0 PARTS, 1 RAYS, 2 CHAMBERS, 3 CHANGES that may be undone, 4 bytes of THE TAPE, "
            + "5 1 if there are FORMULAS, else 0");
        int[][] due = {{0, 0, 0, 0, 0, 0}, {1, 1, 0, 1, 8, 0}, {2, 2, 1, 2, 16, 1}, {3, 2, 1, 3, 24, 1},
            {4, 3, 2, 4, 32, 1}, {5, 4, 3, 5, 40, 1}, {6, 5, 4, 6, 48, 0}};
        int[][] steps = {{1, 0}, {0, 1}, {2, 0}, {1, 1}, {1, 2}, {4, 3}};
        VectorWays x = new VectorWays();
        for (int parts = 0; parts <= 6; parts++) {
            for (int what = 0; what <= 5; what++) {
                EDGES.due("many(" + what + ") of " + parts + " parts", x.many(what), due[parts][what]);
            }
            if (parts < 6) {
                x.part(steps[parts][0], steps[parts][1]);
                x.feed(0, 8);
            }
        }
        VectorWays six = Due.with(1, 0, 4, 1, 1, 1, 1, 2, 1, 3, 0, 1);
        EDGES.due("six rays", six.many(1), 6);
        EDGES.due("five chambers", six.many(2), 5);
        EDGES.due("a tape of 100 bytes", Edges.withBlanks(100).many(4), 100);

        EDGES.promise(32, "BAD");
        for (int wrong : Edges.outside(0, 5)) {
            EDGES.due("many(" + wrong + ")", x.many(wrong), Edges.BAD);
        }
    }
}
