/** Promises 16 to 23: rays, period, chambers, homes, differences, formulas. */
public final class ChambersTest {
    private static final int MIN = Integer.MIN_VALUE, MAX = Integer.MAX_VALUE;
    private static final Due DUE = new Due();

    public static void main(String[] args) {
        rays();
        periods();
        chambers();
        homes();
        homesRefused();
        differences();
        differencesRefused();
        formulas();
        farFormulas();
        formulasRefused();
        agreements();
        agreementsRefused();
        DUE.end();
    }

    // Promise 16
    private static void rays() {
        VectorWays x = Due.with(2, 4, 3, 0, 0, 3, 1, 2, 4, 1, 2, 2);
        int[][] all = {{1, 0, 1}, {4, 1, 1}, {1, 1, 1}, {1, 2, 2}, {0, 1, 1}};
        for (int ray = 0; ray < all.length; ray++) {
            for (int what = 0; what < 3; what++) {
                DUE.due("ray(" + ray + ", " + what + ")", x.ray(ray, what), all[ray][what]);
            }
        }
        int[][] bad = {{5, 0}, {6, 0}, {-1, 0}, {0, 3}, {0, -1}, {MAX, 0}, {MIN, 0}, {0, MAX}, {0, MIN}};
        for (int[] call : bad) {
            DUE.due("ray(" + call[0] + ", " + call[1] + ")", x.ray(call[0], call[1]), VectorWays.BAD);
        }
        DUE.due("no ray", new VectorWays().ray(0, 0), VectorWays.BAD);
        VectorWays same = Due.with(2, 2, 4, 4, 1, 1, 3, 3, 1, 1, 2, 2);
        DUE.due("one ray", same.many(1), 1);
        DUE.due("all go that way", same.ray(0, 2), 6);
        DUE.due("its across", same.ray(0, 0), 1);
        VectorWays close = Due.with(3, 4, 2, 3, 4, 3, 1, 1, 3, 2, 0, 4);
        int[] order = {2, 1, 1, 0, 1, 0};
        for (int ray = 0; ray < 6; ray++) {
            DUE.due("one of each", close.ray(ray, 2), 1);
        }
        int[] rayOf = {3, 4, 1, 2, 0, 5};
        for (int p = 0; p < 6; p++) {
            DUE.due("ray of part " + p, close.partOf(p, 3), rayOf[p]);
        }
        DUE.due("order has six", order.length, 6);
        close.drop();
        DUE.due("a ray goes with its last part", close.many(1), 5);
        close.undo();
        DUE.due("and comes again", close.ray(5, 1), 1);
    }

    // Promises 17 and 18
    private static void periods() {
        Object[][] cases = {
            {new int[] {}, 1}, {new int[] {3, 1}, 1}, {new int[] {2, 0, 4, 0}, 1}, {new int[] {1, 0, 0, 1}, 1},
            {new int[] {2, 0, 0, 1}, 2}, {new int[] {2, 0, 0, 3}, 6}, {new int[] {4, 0, 0, 4}, 16},
            {new int[] {4, 1, 1, 4}, 15}, {new int[] {1, 4, 4, 1}, 15}, {new int[] {1, 0, 1, 2, 0, 1}, 2},
            {new int[] {2, 1, 1, 2, 1, 1}, 3}, {new int[] {3, 0, 0, 1, 2, 0}, 6}, {new int[] {4, 0, 0, 1, 2, 0}, 4},
            {new int[] {1, 0, 2, 3, 1, 4}, 60}, {new int[] {4, 3, 3, 4}, 7}, {new int[] {1, 1, 2, 2, 1, 2}, 2},
            {new int[] {1, 0, 1, 2, 1, 3, 1, 4, 3, 1, 4, 4}, 2 * 2 * 2 * 3 * 5 * 11},
        };
        for (Object[] row : cases) {
            VectorWays x = Due.with((int[]) row[0]);
            int due = (Integer) row[1];
            DUE.due("period", x.period(), due);
            DUE.due("unit", x.unit(), due == 1 ? 1 : 0);
            DUE.due("formulas", x.many(5), x.many(2) > 0 && due <= 6 ? 1 : 0);
        }
        VectorWays net = new VectorWays();
        net.arc(0, 1);
        net.arc(0, 2);
        net.arc(1, 2);
        DUE.due("arcs of a net are unit", net.unit(), 1);
        net.part(1, 2);
        DUE.due("no more", net.unit(), 0);
        net.undo();
        DUE.due("and again", net.unit(), 1);
    }

    // Promise 19
    private static void chambers() {
        VectorWays x = Due.with(1, 0, 0, 1, 1, 1, 1, 2);
        int[][] due = {{0, 0, 0}, {5, 0, 0}, {5, 5, 0}, {5, 6, 1}, {3, 6, 1}, {3, 7, 2}, {0, 1, 2}, {-1, 5, -3}, {5, -1, -3},
            {-1, -1, -3}, {-60, -60, -3}, {60, 60, 0}, {60, 0, 0}, {0, 60, 2}, {30, 60, 1}, {29, 60, 2}, {-1, 0, -3},
            {0, -1, -3}, {1, -60, -3}, {-60, 60, -3}};
        for (int[] row : due) {
            DUE.due("chamberOf(" + row[0] + ", " + row[1] + ")", x.chamberOf(row[0], row[1]), row[2]);
        }
        VectorWays narrow = Due.with(3, 1, 1, 3);
        DUE.due("period 8", narrow.period(), 8);
        DUE.due("a chamber all the same", narrow.chamberOf(3, 1), 0);
        DUE.due("below it", narrow.chamberOf(4, 1), VectorWays.NONE);
        DUE.due("above it", narrow.chamberOf(1, 4), VectorWays.NONE);
        DUE.due("one ray has no chamber", Due.with(1, 1).chamberOf(1, 1), VectorWays.NONE);
        int[][] bad = {{61, 0}, {0, 61}, {-61, 0}, {0, -61}, {MAX, 0}, {0, MAX}, {MIN, 0}, {0, MIN}};
        for (int[] xy : bad) {
            DUE.due("chamberOf", x.chamberOf(xy[0], xy[1]), VectorWays.BAD);
            DUE.due("BAD without chambers too", new VectorWays().chamberOf(xy[0], xy[1]), VectorWays.BAD);
        }
    }

    // Promise 20
    private static void homes() {
        VectorWays x = Due.with(2, 0, 2, 3);
        // Rays (1, 0) and (2, 3), D 3, period 6: spans are cut to 0 to 17.
        DUE.due("period", x.period(), 6);
        int[][] due = {{0, 0, 0, 0, 0, 0}, {5, 0, 5, 0, 0, 0}, {6, 0, 0, 0, 1, 0}, {-1, 0, 5, 0, -1, 0},
            {0, 18, 0, 0, -2, 1}, {0, 17, 12, 17, -2, 0}, {0, -1, 12, 17, 0, -1}, {13, 19, 1, 1, 0, 1},
            {-60, -60, 12, 12, -4, -4}, {60, 60, 6, 6, 3, 3}};
        for (int[] row : due) {
            String point = "(" + row[0] + ", " + row[1] + ")";
            DUE.due("x of the home of " + point, x.home(0, row[0], row[1], 0), row[2]);
            DUE.due("y of the home of " + point, x.home(0, row[0], row[1], 1), row[3]);
            DUE.due("i of the home of " + point, x.home(0, row[0], row[1], 2), 1000 + row[4]);
            DUE.due("j of the home of " + point, x.home(0, row[0], row[1], 3), 1000 + row[5]);
        }
    }

    private static void homesRefused() {
        VectorWays x = Due.with(1, 0, 0, 1, 1, 1);
        int[][] bad = {{2, 0, 0, 0}, {-1, 0, 0, 0}, {0, 61, 0, 0}, {0, -61, 0, 0}, {0, 0, 61, 0}, {0, 0, -61, 0},
            {0, 0, 0, 4}, {0, 0, 0, -1}, {MAX, 0, 0, 0}, {MIN, 0, 0, 0}, {0, MAX, MIN, 0}, {0, 0, 0, MAX}, {5, 0, 0, 0}};
        for (int[] call : bad) {
            DUE.due("home", x.home(call[0], call[1], call[2], call[3]), VectorWays.BAD);
        }
        DUE.due("the last chamber", x.home(1, -60, 60, 2), 1000 - 60);
        DUE.due("the last chamber", x.home(1, -60, 60, 3), 1120);
        DUE.due("no formulas", Due.with(1, 0, 1, 1, 4, 1, 1, 3).home(0, 0, 0, 0), VectorWays.BAD);
        DUE.due("no chamber", Due.with(1, 1).home(0, 0, 0, 0), VectorWays.BAD);
        DUE.due("no part", new VectorWays().home(0, 0, 0, 0), VectorWays.BAD);
    }

    // Promise 21
    private static void differences() {
        VectorWays x = Due.with(1, 0, 0, 1, 1, 1, 1, 2);
        for (int chamber = 0; chamber < 3; chamber++) {
            for (int g = 0; g <= 2; g++) {
                for (int h = 0; g + h <= 2; h++) {
                    DUE.due("difference", x.difference(chamber, -7, 9, g, h), plainDifference(x, chamber, -7, 9, g, h));
                }
            }
        }
        Due.feed(x, "is 0");
        x.rule(3);
        DUE.due("of free ways, whatever rules let", x.difference(1, 7, 9, 0, 1), 7);
        DUE.due("of free ways, whatever rules let", x.difference(1, 7, 9, 0, 2), 4);
    }

    private static void differencesRefused() {
        VectorWays x = Due.with(1, 0, 0, 1, 1, 1, 2, 1);
        int[][] bad = {{2, 1}, {1, 2}, {3, 0}, {0, 3}, {-1, 0}, {0, -1}, {-1, 3}, {3, -1}, {MAX, MAX}, {MAX, 1}, {1, MAX},
            {MIN, MIN}, {MIN, 0}, {0, MIN}, {MAX, MIN}, {MIN, MAX}};
        for (int[] gh : bad) {
            DUE.due("difference", x.difference(0, 1, 1, gh[0], gh[1]), VectorWays.NO);
        }
        DUE.due("no such chamber", x.difference(3, 1, 1, 0, 0), VectorWays.NO);
        DUE.due("no such chamber", x.difference(-1, 1, 1, 0, 0), VectorWays.NO);
        DUE.due("too far", x.difference(0, 61, 1, 0, 0), VectorWays.NO);
        DUE.due("too far", x.difference(0, 1, -61, 0, 0), VectorWays.NO);
        DUE.due("no formulas", Due.with(4, 0, 0, 4).difference(0, 0, 0, 0, 0), VectorWays.NO);
        VectorWays two = Due.with(1, 0, 0, 1);
        DUE.due("two parts", two.difference(0, 0, 0, 0, 0), 1);
        DUE.due("two parts", two.difference(0, 0, 0, 1, 0), VectorWays.NO);
        DUE.due("two parts", two.difference(0, 0, 0, 0, 1), VectorWays.NO);
    }

    // Promise 22
    private static void formulas() {
        int[][] sets = {{1, 0, 0, 1, 1, 1, 1, 2}, {1, 0, 0, 1}, {2, 0, 0, 3, 1, 0}, {1, 0, 1, 1, 0, 1, 1, 0, 1, 1, 0, 1},
            {2, 1, 1, 2, 1, 1}, {3, 4, 1, 1, 2, 3}, {2, 2, 1, 1, 1, 0, 0, 1}};
        for (int[] set : sets) {
            VectorWays x = Due.with(set);
            DUE.due("formulas are there", x.many(5), 1);
            for (int chamber = 0; chamber < x.many(2) && chamber < 2; chamber++) {
                int[][] points = {{0, 0}, {7, 5}, {-4, 9}, {3, -11}, {-8, -2}};
                for (int[] xy : points) {
                    DUE.due("formula", x.formula(chamber, xy[0], xy[1]), plainFormula(set, chamber, xy[0], xy[1]));
                }
            }
        }
    }

    /**
     * Where cases are unit, the formula counts in its chamber, and behind nought
     * (but on the outermost rays) those with some of each part.
     */
    private static void farFormulas() {
        int[][] sets = {{1, 0, 1, 1, 0, 1, 1, 0, 1, 1, 0, 1}, {1, 0, 0, 1, 1, 1}, {1, 0, 1, 0, 1, 0, 0, 1, 0, 1, 0, 1},
            {1, 1, 3, 4, 1, 1, 3, 4}, {2, 3, 1, 1, 3, 4}};
        for (int[] set : sets) {
            VectorWays x = Due.with(set);
            int sign = set.length / 2 % 2 == 0 ? 1 : -1;
            for (int toX = 0; toX <= 60; toX += 12) {
                for (int toY = 0; toY <= 60; toY += 10) {
                    int chamber = x.chamberOf(toX, toY);
                    if (chamber >= 0) {
                        DUE.due("formula far off", x.formula(chamber, toX, toY), x.free(toX, toY));
                    }
                    if (chamber >= 0 && !isOnOutermostRay(x, toX, toY)) {
                        DUE.due("formula behind nought", x.formula(chamber, -toX, -toY), sign * x.strict(toX, toY));
                    }
                }
            }
        }
        VectorWays x = Due.with(1, 0, 0, 1, 1, 1);
        DUE.due("on the other side", x.formula(0, 3, 60), 61);
        DUE.due("on the other side", x.formula(1, 60, -60), 61);
        x.part(1, 1);
        DUE.due("formulas follow the parts", x.formula(0, 3, 60), 61 * 62 / 2);
        x.undo();
        DUE.due("and follow back", x.formula(0, 3, 60), 61);
    }

    private static boolean isOnOutermostRay(VectorWays x, int toX, int toY) {
        int last = x.many(1) - 1;
        return toX * x.ray(0, 1) == toY * x.ray(0, 0) || toX * x.ray(last, 1) == toY * x.ray(last, 0);
    }

    private static void formulasRefused() {
        VectorWays x = Due.with(1, 0, 0, 1, 1, 1);
        int[][] bad = {{2, 0, 0}, {-1, 0, 0}, {0, 61, 0}, {0, -61, 0}, {0, 0, 61}, {0, 0, -61}, {MAX, 0, 0}, {MIN, 0, 0},
            {0, MAX, 0}, {0, 0, MIN}};
        for (int[] call : bad) {
            DUE.due("formula", x.formula(call[0], call[1], call[2]), VectorWays.NO);
        }
        DUE.due("period 7", Due.with(4, 3, 3, 4).formula(0, 7, 7), VectorWays.NO);
        DUE.due("period 6", Due.with(2, 0, 0, 3).formula(0, 6, 6), 1);
        DUE.due("period 6", Due.with(2, 0, 0, 3).formula(0, 6, 7), 0);
        DUE.due("no chamber", Due.with(1, 1).formula(0, 1, 1), VectorWays.NO);
        DUE.due("no part", new VectorWays().formula(0, 0, 0), VectorWays.NO);
    }

    // Promise 23
    private static void agreements() {
        int[][] sets = {{1, 0, 0, 1, 1, 1, 1, 2}, {1, 0, 0, 1}, {2, 0, 0, 3, 1, 0}, {2, 1, 1, 2, 1, 1}};
        for (int[] set : sets) {
            VectorWays x = Due.with(set);
            for (int chamber = 0; chamber < x.many(2); chamber++) {
                int same = 0;
                for (int toX = 0; toX <= 7; toX++) {
                    for (int toY = 0; toY <= 7; toY++) {
                        same += plainFormula(set, chamber, toX, toY) == plainWays(set, toX, toY) ? 1 : 0;
                    }
                }
                DUE.due("agrees(" + chamber + ", 7)", x.agrees(chamber, 7), same);
            }
        }
        VectorWays x = Due.with(1, 0, 0, 1, 1, 1);
        DUE.due("agrees(0, 0)", x.agrees(0, 0), 1);
        // The formula of chamber 0 is y + 1, the free ways are the lesser of x and y, and 1.
        DUE.due("agrees(0, 30)", x.agrees(0, 30), 31 * 32 / 2);
        DUE.due("agrees(1, 30)", x.agrees(1, 30), 31 * 32 / 2);
        DUE.due("one chamber", Due.with(1, 0, 0, 1).agrees(0, 30), 961);
        Due.feed(x, "is 0");
        x.rule(0);
        DUE.due("of free ways, whatever rules let", x.agrees(0, 30), 31 * 32 / 2);
    }

    private static void agreementsRefused() {
        VectorWays x = Due.with(1, 0, 0, 1);
        int[][] bad = {{1, 0}, {-1, 0}, {0, -1}, {0, 31}, {0, MAX}, {0, MIN}, {MAX, 0}, {MIN, 0}};
        for (int[] call : bad) {
            DUE.due("agrees", x.agrees(call[0], call[1]), VectorWays.BAD);
        }
        DUE.due("no formulas", Due.with(4, 0, 0, 2).agrees(0, 5), VectorWays.BAD);
        DUE.due("no part", new VectorWays().agrees(0, 0), VectorWays.BAD);
    }

    // What the document says, in its plainest form

    private static long plainDifference(VectorWays x, int chamber, int toX, int toY, int g, int h) {
        int period = x.period();
        int homeX = x.home(chamber, toX, toY, 0);
        int homeY = x.home(chamber, toX, toY, 1);
        long all = 0;
        for (int u = 0; u <= g; u++) {
            for (int v = 0; v <= h; v++) {
                long ways = x.free(homeX + period * (u * x.ray(chamber, 0) + v * x.ray(chamber + 1, 0)),
                    homeY + period * (u * x.ray(chamber, 1) + v * x.ray(chamber + 1, 1)));
                all += ways * choose(g, u) * choose(h, v) * ((g - u + h - v) % 2 == 0 ? 1 : -1);
            }
        }
        return all;
    }

    /** The formula of a set whose rays and period an object tells. */
    private static long plainFormula(int[] set, int chamber, int toX, int toY) {
        VectorWays x = Due.with(set);
        int period = x.period();
        int a = period * x.ray(chamber, 0);
        int b = period * x.ray(chamber, 1);
        int c = period * x.ray(chamber + 1, 0);
        int d = period * x.ray(chamber + 1, 1);
        int most = set.length / 2 - 2;
        long all = 0;
        for (int i = -500; i <= 500; i++) {
            for (int j = -500; j <= 500; j++) {
                int homeX = toX - i * a - j * c;
                int homeY = toY - i * b - j * d;
                int s = homeX * d - homeY * c;
                int t = homeY * a - homeX * b;
                int size = a * d - b * c;
                if (s < 0 || t < 0 || s >= size || t >= size) {
                    continue;
                }
                for (int g = 0; g <= most; g++) {
                    for (int h = 0; g + h <= most; h++) {
                        all += choose(i, g) * choose(j, h) * plainStep(set, homeX, homeY, new int[] {a, b, c, d}, g, h);
                    }
                }
            }
        }
        return all;
    }

    private static long plainStep(int[] set, int homeX, int homeY, int[] rays, int g, int h) {
        if (g > 0) {
            return plainStep(set, homeX + rays[0], homeY + rays[1], rays, g - 1, h)
                - plainStep(set, homeX, homeY, rays, g - 1, h);
        }
        if (h > 0) {
            return plainStep(set, homeX + rays[2], homeY + rays[3], rays, g, h - 1)
                - plainStep(set, homeX, homeY, rays, g, h - 1);
        }
        return plainWays(set, homeX, homeY);
    }

    private static long plainWays(int[] set, int toX, int toY) {
        if (toX < 0 || toY < 0) {
            return 0;
        }
        if (set.length == 0) {
            return toX == 0 && toY == 0 ? 1 : 0;
        }
        int[] rest = java.util.Arrays.copyOfRange(set, 2, set.length);
        long all = 0;
        for (int k = 0; k <= Math.max(toX, toY); k++) {
            all += plainWays(rest, toX - k * set[0], toY - k * set[1]);
        }
        return all;
    }

    private static long choose(long n, int k) {
        long above = 1;
        long below = 1;
        for (int f = 0; f < k; f++) {
            above *= n - f;
            below *= f + 1;
        }
        return above / below;
    }
}
