/** The bounds that promises 16 to 23 name. */
public final class ChambersEdgesTest {
    /** Parts of a period of 7, one above the greatest for which there are formulas. */
    private static final int[] PERIOD_7 = {4, 3, 3, 4};
    private static final Edges EDGES = new Edges();

    public static void main(String[] args) {
        ray();
        period();
        unit();
        chamberOf();
        chamberOfWalls();
        home();
        homeRefused();
        difference();
        differenceRefused();
        formula();
        formulaFarOff();
        formulaRefused();
        agrees();
        agreesRefused();
        EDGES.end();
    }

    private static void ray() {
        EDGES.promise(16, "Of a RAY: 0 ACROSS, 1 UP, 2 how many PARTS go that way");
        int[][] due = {{1, 0, 2}, {4, 1, 1}, {1, 1, 1}, {1, 4, 1}, {0, 1, 1}};
        VectorWays x = Due.with(0, 4, 1, 4, 3, 3, 4, 1, 4, 0, 2, 0);
        for (int ray = 0; ray < 5; ray++) {
            for (int what = 0; what <= 2; what++) {
                EDGES.due("ray(" + ray + ", " + what + ")", x.ray(ray, what), due[ray][what]);
            }
        }
        EDGES.due("all six go one way", Due.with(4, 4, 1, 1, 2, 2, 3, 3, 1, 1, 4, 4).ray(0, 2), 6);

        EDGES.promise(16, "BAD");
        for (int wrong : Edges.outside(0, 2)) {
            EDGES.due("ray(4, " + wrong + ")", x.ray(4, wrong), Edges.BAD);
        }
        for (int wrong : Edges.outside(0, 4)) {
            EDGES.due("ray(" + wrong + ", 0)", x.ray(wrong, 0), Edges.BAD);
            EDGES.due("ray(" + wrong + ", 2)", x.ray(wrong, 2), Edges.BAD);
        }
        EDGES.due("no part, no ray", new VectorWays().ray(0, 0), Edges.BAD);
        EDGES.due("one ray alone", Due.with(1, 1, 2, 2).ray(1, 2), Edges.BAD);
        VectorWays six = Due.with(1, 0, 4, 1, 1, 1, 1, 2, 1, 3, 0, 1);
        EDGES.due("the sixth ray", six.ray(5, 1), 1);
        EDGES.due("a seventh", six.ray(6, 1), Edges.BAD);
        six.drop();
        EDGES.due("a ray that went with its last part", six.ray(5, 1), Edges.BAD);
    }

    private static void period() {
        EDGES.promise(17, "PERIOD");
        EDGES.due("no parts", new VectorWays().period(), 1);
        EDGES.due("one part", Due.with(4, 4).period(), 1);
        EDGES.due("parts of one ray", Due.with(4, 0, 3, 0, 2, 0).period(), 1);
        EDGES.due("sizes of 1", Due.with(1, 0, 0, 1, 1, 1).period(), 1);
        EDGES.due("sizes of parts, not of rays", Due.with(4, 0, 0, 4).period(), 16);
        EDGES.due("a pair of later parts", Due.with(1, 1, 1, 2, 2, 1).period(), 3);
        EDGES.due("multiples of 4, 6, 9", Due.with(2, 0, 3, 0, 0, 2, 0, 3).period(), 36);
        EDGES.due("multiples of 11 to 16", Due.with(4, 0, 0, 4, 4, 1, 1, 4, 3, 4, 4, 3).period(), 16 * 3 * 5 * 13 * 7);

        EDGES.promise(17, "PERIOD");
        VectorWays x = Due.with(2, 0, 0, 3);
        EDGES.due("6", x.period(), 6);
        x.part(0, 2);
        EDGES.due("of 6 and 4", x.period(), 12);
        x.undo();
        EDGES.due("6 again", x.period(), 6);
        x.drop();
        EDGES.due("none unlike any more", x.period(), 1);
    }

    private static void unit() {
        EDGES.promise(18, "1 if it is UNIT, else 0");
        EDGES.due("no parts", new VectorWays().unit(), 1);
        EDGES.due("one part", Due.with(4, 4).unit(), 1);
        EDGES.due("parts of one ray", Due.with(2, 0, 4, 0).unit(), 1);
        EDGES.due("a size of 1", Due.with(1, 0, 4, 1).unit(), 1);
        EDGES.due("a size of 1, downwards", Due.with(4, 1, 1, 0).unit(), 1);
        EDGES.due("a size of 2", Due.with(1, 0, 0, 2).unit(), 0);
        EDGES.due("a size of 2, downwards", Due.with(0, 2, 1, 0).unit(), 0);
        EDGES.due("sizes of 1, 1 and 2", Due.with(1, 0, 1, 1, 1, 2).unit(), 0);
        EDGES.due("sizes of 1 alone", Due.with(1, 1, 3, 4, 2, 3, 1, 1).unit(), 1);
        VectorWays net = new VectorWays();
        for (int i = 0; i < 6; i++) {
            net.arc(i % 3 == 2 ? 1 : 0, i % 3 == 0 ? 1 : 2);
            EDGES.due(i + 1 + " arcs of the net", net.unit(), 1);
        }
    }

    private static void chamberOf() {
        EDGES.promise(19, "The least CHAMBER that a POINT (x, y: -60 to 60) is in");
        VectorWays x = Due.with(1, 0, 1, 1, 0, 1);
        int[][] due = {{60, 60, 0}, {60, 59, 0}, {59, 60, 1}, {60, 0, 0}, {0, 60, 1}, {0, 0, 0}, {1, 1, 0}, {1, 2, 1}};
        for (int[] row : due) {
            EDGES.due("chamberOf(" + row[0] + ", " + row[1] + ")", x.chamberOf(row[0], row[1]), row[2]);
        }

        EDGES.promise(19, "NONE: it is in none");
        int[][] none = {{-1, 0}, {0, -1}, {60, -1}, {-1, 60}, {-60, -60}, {-60, 60}, {60, -60}, {-1, -1}};
        for (int[] xy : none) {
            EDGES.due("chamberOf(" + xy[0] + ", " + xy[1] + ")", x.chamberOf(xy[0], xy[1]), Edges.NONE);
        }
        EDGES.due("no parts, no chamber", new VectorWays().chamberOf(0, 0), Edges.NONE);
        EDGES.due("one ray, no chamber", Due.with(1, 1, 2, 2).chamberOf(1, 1), Edges.NONE);

        EDGES.promise(19, "BAD");
        for (int wrong : Edges.outside(-60, 60)) {
            EDGES.due("chamberOf(" + wrong + ", 0)", x.chamberOf(wrong, 0), Edges.BAD);
            EDGES.due("chamberOf(0, " + wrong + ")", x.chamberOf(0, wrong), Edges.BAD);
            EDGES.due("no chamber: chamberOf(" + wrong + ", 1)", new VectorWays().chamberOf(wrong, 1), Edges.BAD);
            EDGES.due("no chamber: chamberOf(-1, " + wrong + ")", new VectorWays().chamberOf(-1, wrong), Edges.BAD);
        }
    }

    private static void chamberOfWalls() {
        EDGES.promise(19, "The least CHAMBER that a POINT (x, y: -60 to 60) is in. BAD; NONE: it is in none");
        VectorWays narrow = Due.with(4, 3, 1, 1, 3, 4);
        int[][] due = {{4, 3, 0}, {60, 45, 0}, {60, 44, -3}, {60, 60, 0}, {59, 60, 1}, {45, 60, 1}, {44, 60, -3}, {3, 4, 1},
            {-4, -3, -3}, {-1, -1, -3}, {0, 0, 0}, {0, 1, -3}, {1, 0, -3}};
        for (int[] row : due) {
            EDGES.due("chamberOf(" + row[0] + ", " + row[1] + ")", narrow.chamberOf(row[0], row[1]), row[2]);
        }
        EDGES.due("chambers without formulas, too", narrow.many(5), 0);
        VectorWays six = Due.with(1, 0, 4, 1, 1, 1, 1, 2, 1, 3, 0, 1);
        int[][] walls = {{60, 0, 0}, {60, 15, 0}, {60, 60, 1}, {30, 60, 2}, {20, 60, 3}, {0, 60, 4}, {19, 60, 4}, {21, 60, 3},
            {31, 60, 2}, {60, 16, 1}};
        for (int[] row : walls) {
            EDGES.due("chamberOf(" + row[0] + ", " + row[1] + ")", six.chamberOf(row[0], row[1]), row[2]);
        }
    }

    private static void dueHome(VectorWays x, int chamber, int[] row) {
        for (int what = 0; what <= 3; what++) {
            EDGES.due("home(" + chamber + ", " + row[0] + ", " + row[1] + ", " + what + ")",
                x.home(chamber, row[0], row[1], what), row[2 + what]);
        }
    }

    private static void home() {
        EDGES.promise(20, "HOME of a POINT (x, y: -60 to 60) for a CHAMBER: 0 its x, 1 its y, 2 1000 and i, 3 1000 and j");
        // D is 1, the period 2: spans are x and y, at home 0 to 1.
        VectorWays square = Due.with(2, 0, 0, 1);
        int[][] due = {{0, 0, 0, 0, 1000, 1000}, {1, 1, 1, 1, 1000, 1000}, {2, 2, 0, 0, 1001, 1001},
            {-1, -1, 1, 1, 999, 999}, {-2, -2, 0, 0, 999, 999}, {-3, 3, 1, 1, 998, 1001}, {60, -60, 0, 0, 1030, 970},
            {-60, 60, 0, 0, 970, 1030}, {59, -59, 1, 1, 1029, 970}};
        for (int[] row : due) {
            dueHome(square, 0, row);
        }
        // Rays (2, 1), (1, 2), D 3, period 3: spans are 2x - y and 2y - x, at home 0 to 8.
        VectorWays slanting = Due.with(2, 1, 1, 2);
        int[][] slant = {{0, 0, 0, 0, 1000, 1000}, {8, 8, 8, 8, 1000, 1000}, {9, 9, 0, 0, 1001, 1001},
            {4, 0, 7, 6, 1000, 999}, {1, 2, 1, 2, 1000, 1000}, {6, 3, 0, 0, 1001, 1000}, {3, 6, 0, 0, 1000, 1001},
            {-1, -1, 8, 8, 999, 999}, {5, 1, 2, 4, 1001, 999}, {60, 60, 6, 6, 1006, 1006},
            {-60, -60, 3, 3, 993, 993}, {60, -60, 0, 0, 1020, 980}, {-60, 60, 0, 0, 980, 1020}};
        for (int[] row : slant) {
            dueHome(slanting, 0, row);
        }
        // The second of two chambers: rays (1, 1), (0, 1), period 1.
        VectorWays two = Due.with(1, 0, 1, 1, 0, 1);
        dueHome(two, 1, new int[] {60, -60, 0, 0, 1060, 880});
        dueHome(two, 1, new int[] {-60, 60, 0, 0, 940, 1120});
        dueHome(two, 0, new int[] {60, -60, 0, 0, 1120, 940});
        everyHome(Due.with(1, 0, 3, 1), -60, 0);
        everyHome(Due.with(2, 0, 2, 3), 60, -7);
        everyHome(Due.with(3, 4, 1, 2, 2, 3), 8, -60);
    }

    /** Every home on the way from a point, one step up at a time, is where its spans are as told. */
    private static void everyHome(VectorWays x, int atX, int fromY) {
        int period = x.period();
        int a = x.ray(0, 0);
        int b = x.ray(0, 1);
        int c = x.ray(1, 0);
        int d = x.ray(1, 1);
        int size = period * (a * d - b * c);
        for (int y = fromY; y <= fromY + 60; y++) {
            int homeX = x.home(0, atX, y, 0);
            int homeY = x.home(0, atX, y, 1);
            int i = x.home(0, atX, y, 2) - 1000;
            int j = x.home(0, atX, y, 3) - 1000;
            String point = "(" + atX + ", " + y + ")";
            int s = homeX * d - homeY * c;
            int t = homeY * a - homeX * b;
            EDGES.due("spans at the home of " + point, s >= 0 && s < size && t >= 0 && t < size ? 1 : 0, 1);
            EDGES.due("x that comes of it for " + point, homeX + period * (i * a + j * c), atX);
            EDGES.due("y that comes of it for " + point, homeY + period * (i * b + j * d), y);
        }
    }

    private static void homeRefused() {
        EDGES.promise(20, "BAD: also if there are no FORMULAS");
        VectorWays x = Due.with(1, 0, 1, 1, 0, 1);
        for (int wrong : Edges.outside(0, 1)) {
            EDGES.due("home(" + wrong + ", 0, 0, 0)", x.home(wrong, 0, 0, 0), Edges.BAD);
        }
        for (int wrong : Edges.outside(-60, 60)) {
            EDGES.due("home(1, " + wrong + ", 0, 0)", x.home(1, wrong, 0, 0), Edges.BAD);
            EDGES.due("home(1, 0, " + wrong + ", 3)", x.home(1, 0, wrong, 3), Edges.BAD);
        }
        for (int wrong : Edges.outside(0, 3)) {
            EDGES.due("home(1, 0, 0, " + wrong + ")", x.home(1, 0, 0, wrong), Edges.BAD);
        }
        EDGES.due("period 6", Due.with(2, 0, 0, 3).home(0, 0, 0, 2), 1000);
        EDGES.due("period 7", Due.with(PERIOD_7).home(0, 0, 0, 2), Edges.BAD);
        EDGES.due("one ray, no chamber", Due.with(1, 1, 2, 2).home(0, 0, 0, 2), Edges.BAD);
        EDGES.due("no parts", new VectorWays().home(0, 0, 0, 2), Edges.BAD);
    }

    private static void difference() {
        EDGES.promise(21, "DIFFERENCES (g, h) of HOME of a POINT");
        // Three of (1, 0), three of (0, 1): choose 2 of u + 2 times choose 2 of v + 2 ways to make (u, v).
        VectorWays x = Due.with(1, 0, 1, 0, 1, 0, 0, 1, 0, 1, 0, 1);
        int[][] due = {{0, 0, 1}, {1, 0, 2}, {2, 0, 1}, {3, 0, 0}, {4, 0, 0}, {0, 1, 2}, {0, 2, 1}, {0, 3, 0}, {0, 4, 0},
            {1, 1, 4}, {2, 1, 2}, {1, 2, 2}, {3, 1, 0}, {1, 3, 0}, {2, 2, 1}};
        for (int[] row : due) {
            String gh = ", " + row[0] + ", " + row[1] + ")";
            EDGES.due("difference(0, 0, 0" + gh, x.difference(0, 0, 0, row[0], row[1]), row[2]);
            EDGES.due("of the same home: difference(0, -60, 60" + gh, x.difference(0, -60, 60, row[0], row[1]), row[2]);
        }
        // Steps of the period, 2: (0, 0), (2, 0), (4, 0) are made in 1, 2 and 3 ways by (1, 0) and (2, 0).
        VectorWays steps = Due.with(1, 0, 2, 0, 0, 1);
        EDGES.due("period 2: difference(0, 0, 0, 1, 0)", steps.difference(0, 0, 0, 1, 0), 1);
        EDGES.due("period 2: difference(0, 0, 0, 0, 1)", steps.difference(0, 0, 0, 0, 1), 0);
        EDGES.due("period 2: difference(0, 59, 60, 0, 0)", steps.difference(0, 59, 60, 0, 0), 1);
        VectorWays two = Due.with(2, 0, 0, 3);
        EDGES.due("two parts: home is made", two.difference(0, 6, 6, 0, 0), 1);
        EDGES.due("two parts: home isn't made", two.difference(0, 5, 5, 0, 0), 0);
    }

    private static void differenceRefused() {
        EDGES.promise(21, "NO: as of home(), g or h below 0, or both together above m - 2");
        int[] steps = {1, 0, 0, 1, 1, 1, 1, 1, 1, 0, 0, 1};
        for (int m = 2; m <= 6; m++) {
            VectorWays x = Due.with(java.util.Arrays.copyOf(steps, 2 * m));
            for (int g = -2; g <= 6; g++) {
                for (int h = -2; h <= 6; h++) {
                    boolean isThere = g >= 0 && h >= 0 && g + h <= m - 2;
                    String call = m + " parts: difference(0, 1, 1, " + g + ", " + h + ")";
                    EDGES.due(call, x.difference(0, 1, 1, g, h) == Edges.NO ? 0 : 1, isThere ? 1 : 0);
                }
            }
            int[][] far = {{Edges.MAX, 1}, {1, Edges.MAX}, {Edges.MAX, Edges.MAX}, {Edges.MIN, Edges.MIN}, {Edges.MIN, 0},
                {0, Edges.MIN}, {Edges.MAX, Edges.MIN}, {Edges.MIN, Edges.MAX}, {-1, Edges.MAX}, {Edges.MAX, -1},
                {0, Edges.MAX}, {Edges.MAX, 0}};
            for (int[] gh : far) {
                EDGES.due(m + " parts: (" + gh[0] + ", " + gh[1] + ")", x.difference(0, 1, 1, gh[0], gh[1]), Edges.NO);
            }
        }
        VectorWays x = Due.with(1, 0, 1, 1, 0, 1);
        for (int wrong : Edges.outside(0, 1)) {
            EDGES.due("difference(" + wrong + ", 0, 0, 0, 0)", x.difference(wrong, 0, 0, 0, 0), Edges.NO);
        }
        for (int wrong : Edges.outside(-60, 60)) {
            EDGES.due("difference(1, " + wrong + ", 0, 0, 0)", x.difference(1, wrong, 0, 0, 0), Edges.NO);
            EDGES.due("difference(1, 0, " + wrong + ", 0, 0)", x.difference(1, 0, wrong, 0, 0), Edges.NO);
        }
        EDGES.due("period 6", Due.with(2, 0, 0, 3).difference(0, 0, 0, 0, 0), 1);
        EDGES.due("period 7", Due.with(PERIOD_7).difference(0, 0, 0, 0, 0), Edges.NO);
        EDGES.due("no chamber", Due.with(1, 1, 2, 2).difference(0, 0, 0, 0, 0), Edges.NO);
        EDGES.due("no parts", new VectorWays().difference(0, 0, 0, 0, 0), Edges.NO);
    }

    private static void formula() {
        EDGES.promise(22, "FORMULA of a CHAMBER at a POINT");
        // Three of (1, 0), three of (0, 1): choose 2 of x + 2 times choose 2 of y + 2, behind nought, too.
        VectorWays x = Due.with(1, 0, 1, 0, 1, 0, 0, 1, 0, 1, 0, 1);
        int[] at = {-60, -4, -3, -2, -1, 0, 1, 2, 59, 60};
        for (int px : at) {
            for (int py : at) {
                long due = (px + 2) * (px + 1) / 2 * (long) ((py + 2) * (py + 1) / 2);
                EDGES.due("formula(0, " + px + ", " + py + ")", x.formula(0, px, py), due);
            }
        }
        // Four of (1, 0): choose 3 of x + 3, below 0 where x is below -3.
        VectorWays odd = Due.with(1, 0, 1, 0, 1, 0, 1, 0, 0, 1);
        for (int px : at) {
            long due = (long) (px + 3) * (px + 2) * (px + 1) / 6;
            EDGES.due("formula(0, " + px + ", -60)", odd.formula(0, px, -60), due);
        }
        // The class of a point: (6, 6) is made by (2, 0) and (0, 3), points between aren't.
        VectorWays classes = Due.with(2, 0, 0, 3);
        for (int px = -7; px <= 7; px++) {
            for (int py = -7; py <= 7; py++) {
                EDGES.due("formula(0, " + px + ", " + py + ")", classes.formula(0, px, py),
                    px % 2 == 0 && py % 3 == 0 ? 1 : 0);
            }
        }
        // On the wall that two chambers have, both tell the same.
        VectorWays wall = Due.with(1, 0, 1, 1, 0, 1);
        for (int p = -60; p <= 60; p += 20) {
            EDGES.due("chamber 0 on (" + p + ", " + p + ")", wall.formula(0, p, p), p + 1);
            EDGES.due("chamber 1 on (" + p + ", " + p + ")", wall.formula(1, p, p), p + 1);
        }
    }

    /** Parts of all periods for which there are formulas, up to six, with rays that go as far as can be. */
    private static final int[][] FAR = {{2, 2, 4, 3, 1, 0, 2, 2, 4, 3, 1, 0}, {2, 2, 3, 4, 0, 1, 2, 2, 3, 4, 3, 4},
        {4, 1, 3, 2, 4, 1, 3, 2, 4, 1, 3, 2}, {4, 1, 1, 1, 4, 1, 1, 1}, {2, 0, 0, 3, 1, 0, 0, 1, 2, 0, 0, 3},
        {3, 4, 1, 2, 2, 3, 3, 4, 1, 2, 2, 3}, {4, 0, 0, 1, 4, 0, 2, 0}, {1, 3, 1, 4, 1, 2, 1, 4, 1, 3}};

    private static void formulaFarOff() {
        EDGES.promise(22, "FORMULA of a CHAMBER at a POINT");
        for (int[] set : FAR) {
            long[][] free = freeWays(set);
            VectorWays first = Due.with(set);
            int m = set.length / 2;
            for (int x = 0; x <= 60; x += 4) {
                for (int y = 0; y <= 60; y += 3) {
                    int chamber = first.chamberOf(x, y);
                    if (chamber >= 0) {
                        // Each on an object of its own: no call before may have helped it.
                        EDGES.due(m + " parts: formula(" + chamber + ", " + x + ", " + y + ") is the free ways",
                            Due.with(set).formula(chamber, x, y), free[x][y]);
                    }
                }
            }
        }

        EDGES.promise(21, "DIFFERENCES (g, h) of HOME of a POINT");
        for (int[] set : FAR) {
            long[][] free = freeWays(set);
            VectorWays first = Due.with(set);
            int most = set.length / 2 - 2;
            for (int chamber = 0; chamber < first.many(2); chamber++) {
                for (int g = 0; g <= most; g++) {
                    EDGES.due("difference(" + chamber + ", -1, -1, " + g + ", " + (most - g) + ")",
                        Due.with(set).difference(chamber, -1, -1, g, most - g), farDifference(first, free, chamber, g, most - g));
                }
            }
        }

        EDGES.promise(23, "At how many POINTS");
        for (int[] set : FAR) {
            VectorWays first = Due.with(set);
            long[][] free = freeWays(set);
            for (int chamber = 0; chamber < first.many(2); chamber++) {
                int same = 0;
                for (int at = 0; at < 36; at++) {
                    same += Due.with(set).formula(chamber, at / 6, at % 6) == free[at / 6][at % 6] ? 1 : 0;
                }
                EDGES.due("agrees(" + chamber + ", 5)", Due.with(set).agrees(chamber, 5), same);
            }
        }
    }

    /** Free ways to all points that differences may ask for. */
    private static long[][] freeWays(int[] set) {
        long[][] all = new long[150][150];
        all[0][0] = 1;
        for (int p = 0; p < set.length; p += 2) {
            for (int x = set[p]; x < 150; x++) {
                for (int y = set[p + 1]; y < 150; y++) {
                    all[x][y] += all[x - set[p]][y - set[p + 1]];
                }
            }
        }
        return all;
    }

    private static long farDifference(VectorWays x, long[][] free, int chamber, int g, int h) {
        int period = x.period();
        int homeX = x.home(chamber, -1, -1, 0);
        int homeY = x.home(chamber, -1, -1, 1);
        long all = 0;
        for (int u = 0; u <= g; u++) {
            for (int v = 0; v <= h; v++) {
                long ways = free[homeX + period * (u * x.ray(chamber, 0) + v * x.ray(chamber + 1, 0))]
                    [homeY + period * (u * x.ray(chamber, 1) + v * x.ray(chamber + 1, 1))];
                all += ways * choose(g, u) * choose(h, v) * ((g - u + h - v) % 2 == 0 ? 1 : -1);
            }
        }
        return all;
    }

    private static long choose(int n, int k) {
        return k == 0 ? 1 : choose(n - 1, k - 1) * n / k;
    }

    private static void formulaRefused() {
        EDGES.promise(22, "NO: as of home()");
        VectorWays x = Due.with(1, 0, 1, 1, 0, 1);
        for (int wrong : Edges.outside(0, 1)) {
            EDGES.due("formula(" + wrong + ", 0, 0)", x.formula(wrong, 0, 0), Edges.NO);
        }
        for (int wrong : Edges.outside(-60, 60)) {
            EDGES.due("formula(1, " + wrong + ", 0)", x.formula(1, wrong, 0), Edges.NO);
            EDGES.due("formula(1, 0, " + wrong + ")", x.formula(1, 0, wrong), Edges.NO);
        }
        EDGES.due("period 6", Due.with(2, 0, 0, 3).formula(0, 0, 0), 1);
        EDGES.due("period 7", Due.with(PERIOD_7).formula(0, 0, 0), Edges.NO);
        EDGES.due("one ray, no chamber", Due.with(1, 1, 2, 2).formula(0, 0, 0), Edges.NO);
        EDGES.due("no parts", new VectorWays().formula(0, 0, 0), Edges.NO);
    }

    private static void agrees() {
        EDGES.promise(23, "At how many POINTS (x, y: 0 to n each; n 0 to 30) the FORMULA of a CHAMBER is "
            + "how many FREE WAYS there are");
        VectorWays all = Due.with(1, 0, 0, 1);
        VectorWays half = Edges.ruled("not any", 1, 0, 1, 1, 0, 1);
        int[] to = {0, 1, 2, 29, 30};
        for (int n : to) {
            EDGES.due("everywhere: agrees(0, " + n + ")", all.agrees(0, n), (n + 1) * (n + 1));
            // y + 1 is the lesser of x and y, and 1, where y isn't above x.
            EDGES.due("up to the wall: agrees(0, " + n + ")", half.agrees(0, n), (n + 1) * (n + 2) / 2);
            EDGES.due("from the wall on: agrees(1, " + n + ")", half.agrees(1, n), (n + 1) * (n + 2) / 2);
        }
        // (1, 1) and (1, 2) make nothing outside their chamber, but the formula tells 1 there.
        VectorWays narrow = Due.with(1, 1, 1, 2);
        EDGES.due("nought alone", narrow.agrees(0, 0), 1);
        EDGES.due("nought and (1, 1)", narrow.agrees(0, 1), 2);
        EDGES.due("and (1, 2), (2, 2)", narrow.agrees(0, 2), 4);
    }

    private static void agreesRefused() {
        EDGES.promise(23, "BAD: also if there are no FORMULAS");
        VectorWays x = Due.with(1, 0, 1, 1, 0, 1);
        for (int wrong : Edges.outside(0, 30)) {
            EDGES.due("agrees(1, " + wrong + ")", x.agrees(1, wrong), Edges.BAD);
        }
        for (int wrong : Edges.outside(0, 1)) {
            EDGES.due("agrees(" + wrong + ", 3)", x.agrees(wrong, 3), Edges.BAD);
        }
        EDGES.due("period 6", Due.with(2, 0, 0, 3).agrees(0, 0), 1);
        EDGES.due("period 7", Due.with(PERIOD_7).agrees(0, 0), Edges.BAD);
        EDGES.due("one ray, no chamber", Due.with(1, 1, 2, 2).agrees(0, 0), Edges.BAD);
        EDGES.due("no parts", new VectorWays().agrees(0, 0), Edges.BAD);
    }
}
