import java.math.BigInteger;
import java.util.ArrayList;
import java.util.List;

/** Promises 11 to 15: ways counted, told one by one, folded. */
public final class WaysTest {
    private static final int MIN = Integer.MIN_VALUE, MAX = Integer.MAX_VALUE;
    private static final Due DUE = new Due();

    public static void main(String[] args) {
        counts();
        farCounts();
        countsFollowChanges();
        countsRefused();
        ways();
        waysRefused();
        foldsTold();
        foldsTooGreat();
        foldsRefused();
        allWaysOfSmallPoints();
        DUE.end();
    }

    private static VectorWays four() {
        return Due.with(1, 0, 0, 1, 1, 1, 1, 2);
    }

    // Promises 11 to 13
    private static void counts() {
        VectorWays x = four();
        DUE.due("ways(3, 5)", x.ways(3, 5), 9);
        DUE.due("free(3, 5)", x.free(3, 5), 9);
        DUE.due("strict(3, 5)", x.strict(3, 5), 1);
        DUE.due("strict(3, 4)", x.strict(3, 4), 1);
        DUE.due("strict(2, 5)", x.strict(2, 5), 0);
        DUE.due("strict(4, 3)", x.strict(4, 3), 0);
        Due.feed(x, "not is 0");
        x.rule(0);
        DUE.due("ways by rules", x.ways(3, 5), 6);
        DUE.due("free ways whatever rules let", x.free(3, 5), 9);
        DUE.due("strict ones whatever rules let", x.strict(3, 5), 1);
        DUE.due("nought by rules", x.ways(0, 0), 0);
        DUE.due("nought freely", x.free(0, 0), 1);
        DUE.due("nought with some of each", x.strict(0, 0), 0);

        VectorWays none = new VectorWays();
        DUE.due("no parts: nought", none.ways(0, 0), 1);
        DUE.due("no parts: nought", none.free(0, 0), 1);
        DUE.due("no parts: nought", none.strict(0, 0), 1);
        DUE.due("no parts", none.ways(0, 1), 0);
        DUE.due("no parts", none.free(1, 0), 0);
        DUE.due("no parts", none.strict(60, 60), 0);
    }

    private static void farCounts() {
        VectorWays x = Due.with(1, 0, 1, 0, 1, 0, 0, 1, 0, 1, 0, 1);
        DUE.due("ways(60, 60)", x.ways(60, 60), 1891L * 1891);
        DUE.due("free(60, 60)", x.free(60, 60), 1891L * 1891);
        DUE.due("strict(60, 60)", x.strict(60, 60), 1711L * 1711);
        VectorWays y = Due.with(1, 0, 1, 0, 1, 0, 1, 0, 1, 0, 1, 0);
        DUE.due("ways(60, 0)", y.ways(60, 0), 8259888);
        DUE.due("free(60, 0)", y.free(60, 0), 8259888);
        DUE.due("strict(60, 0)", y.strict(60, 0), 5006386);
        DUE.due("ways(60, 1)", y.ways(60, 1), 0);
        DUE.due("the last way", y.way(60, 0, 8259887, 0), 60);
        DUE.due("the first way", y.way(60, 0, 0, 5), 60);
        DUE.due("one more", y.way(60, 0, 8259888, 0), VectorWays.NONE);
        VectorWays sixty = Due.with(1, 0, 0, 1);
        Due.feed(sixty, "is 60 or is 0");
        sixty.rule(0);
        DUE.due("sixty of a part by a rule", sixty.ways(60, 60), 1);
        DUE.due("sixty of a part by a rule", sixty.way(60, 60, 0, 0), 60);
        DUE.due("not so of 59", sixty.ways(59, 60), 0);
    }

    private static void countsFollowChanges() {
        VectorWays x = Due.with(1, 0);
        DUE.due("free(2, 2)", x.free(2, 2), 0);
        DUE.due("ways(2, 2)", x.ways(2, 2), 0);
        x.part(0, 1);
        DUE.due("free(2, 2)", x.free(2, 2), 1);
        DUE.due("ways(2, 2)", x.ways(2, 2), 1);
        DUE.due("free(3, 9)", x.free(3, 9), 1);
        x.part(1, 1);
        DUE.due("free(2, 2)", x.free(2, 2), 3);
        DUE.due("free(9, 3)", x.free(9, 3), 4);
        DUE.due("ways(2, 2)", x.ways(2, 2), 3);
        DUE.due("ways(9, 3)", x.ways(9, 3), 4);
        x.drop();
        DUE.due("free(2, 2)", x.free(2, 2), 1);
        DUE.due("ways(2, 2)", x.ways(2, 2), 1);
        x.undo();
        DUE.due("free(2, 2)", x.free(2, 2), 3);
        DUE.due("ways(2, 2)", x.ways(2, 2), 3);
    }

    private static void countsRefused() {
        VectorWays x = four();
        int[][] bad = {{-1, 0}, {0, -1}, {61, 0}, {0, 61}, {MAX, 0}, {0, MAX}, {MIN, 0}, {0, MIN}, {-1, 61}};
        for (int[] xy : bad) {
            DUE.due("ways", x.ways(xy[0], xy[1]), VectorWays.NO);
            DUE.due("free", x.free(xy[0], xy[1]), VectorWays.NO);
            DUE.due("strict", x.strict(xy[0], xy[1]), VectorWays.NO);
        }
        DUE.due("ways(60, 0)", x.ways(60, 0), 1);
        DUE.due("free(0, 60)", x.free(0, 60), 1);
        DUE.due("strict(60, 0)", x.strict(60, 0), 0);
    }

    // Promise 14
    private static void ways() {
        VectorWays x = Due.with(1, 0, 0, 1, 1, 1);
        int[][] all = {{0, 1, 2}, {1, 2, 1}, {2, 3, 0}};
        for (int i = 0; i < all.length; i++) {
            for (int part = 0; part < 3; part++) {
                DUE.due("way(2, 3, " + i + ", " + part + ")", x.way(2, 3, i, part), all[i][part]);
            }
        }
        DUE.due("a fourth way", x.way(2, 3, 3, 0), VectorWays.NONE);
        Due.feed(x, "not is 1");
        x.rule(0);
        DUE.due("by rules", x.way(2, 3, 1, 1), 3);
        DUE.due("by rules", x.way(2, 3, 2, 1), VectorWays.NONE);
    }

    private static void waysRefused() {
        VectorWays x = Due.with(1, 0, 0, 1, 1, 1);
        int[][] bad = {{-1, 0, 0, 0}, {0, -1, 0, 0}, {61, 0, 0, 0}, {0, 61, 0, 0}, {0, 0, -1, 0}, {0, 0, MIN, 0},
            {0, 0, 0, -1}, {0, 0, 0, 3}, {0, 0, MAX, 3}, {MAX, MIN, 0, 0}, {0, 0, 0, MAX}, {0, 0, 0, MIN}};
        for (int[] call : bad) {
            DUE.due("way", x.way(call[0], call[1], call[2], call[3]), VectorWays.BAD);
        }
        DUE.due("way(0, 0, 0, 2)", x.way(0, 0, 0, 2), 0);
        DUE.due("way(0, 0, 1, 0)", x.way(0, 0, 1, 0), VectorWays.NONE);
        DUE.due("far too many", x.way(60, 60, MAX, 0), VectorWays.NONE);
        DUE.due("without parts no part", new VectorWays().way(0, 0, 0, 0), VectorWays.BAD);
    }

    // Promise 15
    private static void foldsTold() {
        VectorWays x = Due.with(1, 0, 0, 1, 1, 1);
        x.weigh(0, 2);
        x.weigh(1, 3);
        x.weigh(2, 5);
        // The ways of (2, 3): 0 1 2, 1 2 1, 2 3 0.
        DUE.due("worths together", x.fold(0, 2, 3), 75 + 90 + 108);
        DUE.due("greatest copies", x.fold(1, 2, 3), 5);
        DUE.due("fewest copies", x.fold(2, 2, 3), 3);
        DUE.due("greatest worth", x.fold(3, 2, 3), 108);
        DUE.due("worth of none", x.fold(0, 0, 0), 1);
        DUE.due("copies of none", x.fold(1, 0, 0), 0);
        DUE.due("copies of none", x.fold(2, 0, 0), 0);
        DUE.due("worth of none", x.fold(3, 0, 0), 1);
        Due.feed(x, "is 1");
        x.rule(0);
        DUE.due("by rules", x.fold(0, 2, 3), 90);
        DUE.due("by rules", x.fold(1, 2, 3), 4);
        DUE.due("by rules", x.fold(2, 2, 3), 4);
        DUE.due("by rules", x.fold(3, 2, 3), 90);
        DUE.due("no way", x.fold(0, 0, 3), 0);
        for (int what = 1; what <= 3; what++) {
            DUE.due("no way", x.fold(what, 0, 3), VectorWays.NONE);
        }
        VectorWays y = Due.with(1, 0, 0, 1);
        DUE.due("sixty copies", y.fold(1, 30, 30), 60);
        DUE.due("sixty copies", y.fold(2, 30, 30), 60);
    }

    private static void foldsTooGreat() {
        VectorWays two = Due.with(1, 0, 0, 1);
        two.weigh(0, 4);
        two.weigh(1, 2);
        DUE.due("2^62 together", two.fold(0, 30, 2), 1L << 62);
        DUE.due("2^62 at most", two.fold(3, 30, 2), 1L << 62);
        DUE.due("2^63 together", two.fold(0, 30, 3), VectorWays.OVER);
        DUE.due("2^63 at most", two.fold(3, 30, 3), VectorWays.OVER);
        DUE.due("its greatest copies", two.fold(1, 30, 3), 33);
        DUE.due("its fewest copies", two.fold(2, 30, 3), 33);
        two.part(1, 0);
        two.weigh(2, 4);
        DUE.due("31 times 2^62 together", two.fold(0, 30, 2), VectorWays.OVER);
        DUE.due("2^62 at most", two.fold(3, 30, 2), 1L << 62);

        // 7 times (8^21 - 1) / 7 is the greatest number that a long holds.
        VectorWays brim = Due.with(1, 0, 1, 0, 0, 1, 0, 1);
        brim.weigh(0, 2);
        brim.weigh(2, 8);
        DUE.due("2^63 - 1 together", brim.fold(0, 2, 20), Long.MAX_VALUE);
        DUE.due("8^20 times 4 at most", brim.fold(3, 2, 20), 1L << 62);
        brim.part(2, 4);
        DUE.due("one more together", brim.fold(0, 2, 20), VectorWays.OVER);
        Due.feed(brim, "is 0");
        brim.rule(4);
        DUE.due("shut out by a rule", brim.fold(0, 2, 20), Long.MAX_VALUE);
        brim.weigh(1, 3);
        DUE.due("1 and others more together", brim.fold(0, 2, 20), VectorWays.OVER);
        brim.weigh(1, 1);
        DUE.due("15 by 7 times as much together", brim.fold(0, 3, 20), VectorWays.OVER);
        DUE.due("15 by some 8 times as much together", brim.fold(0, 3, 19), 15 * (((1L << 60) - 1) / 7));

        VectorWays once = Due.with(1, 0, 0, 1);
        once.weigh(0, 16);
        once.weigh(1, 3);
        for (int k = 0; k <= 30; k++) {
            DUE.due("16^" + k, once.fold(k % 2 * 3, k, 0), k > 15 ? VectorWays.OVER : 1L << (4 * k));
            DUE.due("16^16 by 3^" + k, once.fold(k % 2 * 3, 16, k), VectorWays.OVER);
            DUE.due("3^" + k + " by 16^16", once.fold(3 - k % 2 * 3, 16, k), VectorWays.OVER);
            DUE.due("copies of 16^" + k, once.fold(1 + k % 2, k, k), 2 * k);
        }

        VectorWays shut = Due.with(1, 0, 1, 0, 0, 1);
        shut.weigh(0, 99);
        shut.weigh(2, 99);
        DUE.due("99^60", shut.fold(3, 30, 30), VectorWays.OVER);
        Due.feed(shut, "most 8");
        shut.rule(0);
        DUE.due("99^8 at most", shut.fold(3, 30, 0), power(99, 8));
        DUE.due("99^9 at most", shut.fold(3, 30, 1), power(99, 9));
        DUE.due("99^10 at most", shut.fold(3, 30, 2), VectorWays.OVER);
        Due.feed(shut, "is 0");
        shut.rule(0);
        DUE.due("what isn't taken doesn't weigh", shut.fold(0, 30, 0), 1);
        DUE.due("99^9 together", shut.fold(0, 30, 9), power(99, 9));
        Due.feed(shut, "is 0");
        shut.rule(2);
        DUE.due("no way: nothing is too great", shut.fold(0, 30, 30), 0);
        DUE.due("no way: nothing is too great", shut.fold(3, 30, 30), VectorWays.NONE);
    }

    private static long power(long w, int k) {
        return BigInteger.valueOf(w).pow(k).longValueExact();
    }

    private static void foldsRefused() {
        VectorWays x = four();
        int[][] bad = {{-1, 0, 0}, {4, 0, 0}, {0, -1, 0}, {0, 0, -1}, {0, 31, 0}, {0, 0, 31}, {MAX, 0, 0}, {MIN, 0, 0},
            {1, MAX, 0}, {1, 0, MIN}, {4, 31, 31}};
        for (int[] call : bad) {
            DUE.due("fold", x.fold(call[0], call[1], call[2]), VectorWays.NO);
        }
        DUE.due("fold(0, 30, 0)", x.fold(0, 30, 0), 1);
        DUE.due("fold(1, 0, 30)", x.fold(1, 0, 30), 30);
    }

    /** Every way of every small point, by trying all numbers of all parts. */
    private static void allWaysOfSmallPoints() {
        int[][] steps = {{1, 0, 0, 1, 1, 1, 2, 1}, {2, 2, 1, 1, 0, 3, 4, 1}, {0, 2, 0, 2, 1, 0, 3, 1}};
        String[] rules = {"by 2 or is 3", "not is 1", "most 4 and not by 3", "least 1"};
        for (int[] step : steps) {
            VectorWays x = Due.with(step);
            for (int p = 0; p < 4; p++) {
                Due.feed(x, rules[p]);
                x.rule(p);
                x.weigh(p, 2 + 3 * p);
            }
            // 6 by 6 points take no more calls than an object answers.
            for (int at = 0; at < 36; at++) {
                tryPoint(x, step, 1 + at % 6, 1 + at / 6);
            }
        }
    }

    private static void tryPoint(VectorWays x, int[] step, int toX, int toY) {
        List<int[]> all = new ArrayList<>();
        for (int k = 0; k < 10_000; k++) {
            int[] taken = {k / 1000, k / 100 % 10, k / 10 % 10, k % 10};
            boolean isLet = (taken[0] % 2 == 0 || taken[0] == 3) && taken[1] != 1
                && taken[2] <= 4 && taken[2] % 3 != 0 && taken[3] >= 1;
            int atX = 0;
            int atY = 0;
            for (int p = 0; p < 4; p++) {
                atX += taken[p] * step[2 * p];
                atY += taken[p] * step[2 * p + 1];
            }
            if (isLet && atX == toX && atY == toY) {
                all.add(taken);
            }
        }
        String point = "(" + toX + ", " + toY + ")";
        DUE.due("ways of " + point, x.ways(toX, toY), all.size());
        BigInteger together = BigInteger.ZERO;
        for (int i = 0; i < all.size(); i++) {
            BigInteger worth = BigInteger.ONE;
            for (int p = 0; p < 4; p++) {
                if (i < 2 || i == all.size() - 1) {
                    DUE.due("way " + i + " of " + point, x.way(toX, toY, i, p), all.get(i)[p]);
                }
                worth = worth.multiply(BigInteger.valueOf(2 + 3 * p).pow(all.get(i)[p]));
            }
            together = together.add(worth);
        }
        DUE.due("worths of " + point, x.fold(0, toX, toY), together.longValueExact());
        DUE.due("no more ways of " + point, x.way(toX, toY, all.size(), 0), VectorWays.NONE);
    }
}
