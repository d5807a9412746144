import java.util.Random;

/** Long runs of calls, each answer compared with what PlainWays answers. */
public final class RunsTest {
    private static final int CALLS = 512;
    /** The longest rule that is told takes so many calls, for its bytes and for itself. */
    private static final int CALLS_OF_A_RULE = 30;
    private static final int[] EDGES = {-1, 0, 1, 4, 5, 6, 30, 31, 60, 61, -60, -61, Integer.MAX_VALUE, Integer.MIN_VALUE};
    private static final String[] WORDS = {"any", "most ", "least ", "by ", "is ", "not ", "and ", "or ", "(", ")", " ",
        "5", "12", "0", "100", "x", "z", "any and ", "is 2 or ", "not is 1", "by 2", "least 1", "\t", "\u00e9"};

    private static final Due DUE = new Due();

    private final Random random;
    private final VectorWays x = new VectorWays();
    private final PlainWays plain = new PlainWays();
    private final int wildness;
    private int calls = 0;

    private RunsTest(long seed, int wildness) {
        random = new Random(seed);
        this.wildness = wildness;
    }

    public static void main(String[] args) {
        int runs = args.length > 0 ? Integer.parseInt(args[0]) : 60;
        for (int run = 0; run < runs && DUE.wrong() < 10; run++) {
            RunsTest test = new RunsTest(run, run % 3 == 0 ? 15 : 60);
            while (test.calls <= CALLS - CALLS_OF_A_RULE && DUE.wrong() < 10) {
                test.call("run " + run + " call " + test.calls + ": ");
            }
        }
        DUE.end();
    }

    /** A number from least to greatest, now and then another one. */
    private int pick(int least, int greatest) {
        if (random.nextInt(wildness) == 0) {
            return random.nextBoolean() ? EDGES[random.nextInt(EDGES.length)] : random.nextInt();
        }
        return least + random.nextInt(greatest - least + 1);
    }

    private int point(int greatest) {
        return random.nextInt(3) == 0 ? pick(0, greatest) : pick(0, Math.min(greatest, 14));
    }

    private void due(String call, long got, long want) {
        calls++;
        DUE.due(call, got, want);
    }

    private void call(String where) {
        switch (random.nextInt(6)) {
            case 0: changePart(where); break;
            case 1: tellRule(where); break;
            case 2: askWays(where); break;
            case 3: askFormula(where); break;
            case 4: askTable(where); break;
            default: askKept(where); break;
        }
    }

    private void changePart(String where) {
        int p = pick(0, 5);
        int a = random.nextInt(3) == 0 ? pick(0, 4) : pick(0, 2);
        int b = random.nextInt(3) == 0 ? pick(0, 4) : pick(0, 2);
        switch (random.nextInt(8)) {
            case 0:
            case 1:
            case 2: due(where + "part(" + a + ", " + b + ")", x.part(a, b), plain.part(a, b)); break;
            case 3: due(where + "arc(" + a + ", " + b + ")", x.arc(a, b), plain.arc(a, b)); break;
            case 4: due(where + "drop()", x.drop(), plain.drop()); break;
            case 5:
                int w = pick(1, 99);
                due(where + "weigh(" + p + ", " + w + ")", x.weigh(p, w), plain.weigh(p, w));
                break;
            case 6: due(where + "undo()", x.undo(), plain.undo()); break;
            default:
                int what = pick(0, 4);
                due(where + "partOf(" + p + ", " + what + ")", x.partOf(p, what), plain.partOf(p, what));
        }
    }

    private void tellRule(String where) {
        int p = pick(0, Math.max(0, plain.many(0) - 1));
        if (random.nextInt(4) == 0) {
            int k = pick(0, 60);
            due(where + "lets(" + p + ", " + k + ")", x.lets(p, k), plain.lets(p, k));
            return;
        }
        if (random.nextInt(8) == 0) {
            long eight = random.nextLong();
            int n = pick(1, 8);
            due(where + "feed", x.feed(eight, n), plain.feed(eight, n));
            return;
        }
        String text = random.nextBoolean() ? goodRule(3) : anyRule();
        for (int start = 0; start < text.length(); start += 8) {
            String piece = text.substring(start, Math.min(text.length(), start + 8));
            due(where + "feed", x.feed(Due.eight(piece), piece.length()), plain.feed(Due.eight(piece), piece.length()));
        }
        due(where + "rule(" + p + ") of " + text, x.rule(p), plain.rule(p));
    }

    private String goodRule(int depth) {
        String[] tests = {"any", "most ", "least ", "by ", "is "};
        int sort = random.nextInt(depth > 0 ? 9 : 5);
        if (sort < 5) {
            return sort == 0 ? "any" : tests[sort] + (sort == 3 ? 1 + random.nextInt(9) : random.nextInt(20));
        }
        if (sort == 5) {
            return "not " + goodRule(depth - 1);
        }
        if (sort == 6) {
            return "(" + goodRule(depth - 1) + ")";
        }
        return goodRule(depth - 1) + (sort == 7 ? " and " : " or ") + goodRule(depth - 1);
    }

    private String anyRule() {
        StringBuilder all = new StringBuilder(random.nextBoolean() ? goodRule(4) : "");
        int n = random.nextInt(6);
        for (int i = 0; i < n; i++) {
            all.insert(random.nextInt(all.length() + 1), WORDS[random.nextInt(WORDS.length)]);
        }
        return all.toString();
    }

    private void askWays(String where) {
        int toX = point(60);
        int toY = point(60);
        String point = "(" + toX + ", " + toY;
        switch (random.nextInt(5)) {
            case 0: due(where + "ways" + point, x.ways(toX, toY), plain.ways(toX, toY)); break;
            case 1: due(where + "free" + point, x.free(toX, toY), plain.free(toX, toY)); break;
            case 2: due(where + "strict" + point, x.strict(toX, toY), plain.strict(toX, toY)); break;
            case 3:
                int foldX = point(30);
                int foldY = point(30);
                int what = pick(0, 3);
                due(where + "fold(" + what + ", " + foldX + ", " + foldY, x.fold(what, foldX, foldY),
                    plain.fold(what, foldX, foldY));
                break;
            default:
                long all = plain.ways(toX, toY);
                int i = all < 1 ? pick(0, 1) : pick(0, (int) Math.min(all, 1 << 30));
                int part = pick(0, 5);
                due(where + "way" + point + ", " + i + ", " + part, x.way(toX, toY, i, part),
                    plain.way(toX, toY, i, part));
        }
    }

    private void askFormula(String where) {
        int chamber = pick(0, Math.max(0, plain.many(2) - 1));
        int toX = random.nextInt(4) == 0 ? pick(-60, 60) : pick(-9, 15);
        int toY = random.nextInt(4) == 0 ? pick(-60, 60) : pick(-9, 15);
        String point = "(" + chamber + ", " + toX + ", " + toY;
        int what = pick(0, 3);
        switch (random.nextInt(9)) {
            case 0: due(where + "ray(" + chamber + ", " + what, x.ray(chamber, what), plain.ray(chamber, what)); break;
            case 1: due(where + "period", x.period(), plain.period()); break;
            case 2: due(where + "unit", x.unit(), plain.unit()); break;
            case 3: due(where + "chamberOf" + point, x.chamberOf(toX, toY), plain.chamberOf(toX, toY)); break;
            case 4:
                due(where + "home" + point + ", " + what, x.home(chamber, toX, toY, what),
                    plain.home(chamber, toX, toY, what));
                break;
            case 5:
            case 6:
                int g = pick(0, 3);
                int h = pick(0, 2);
                due(where + "difference" + point + ", " + g + ", " + h, x.difference(chamber, toX, toY, g, h),
                    plain.difference(chamber, toX, toY, g, h));
                break;
            case 7: due(where + "formula" + point, x.formula(chamber, toX, toY), plain.formula(chamber, toX, toY)); break;
            default:
                int n = pick(0, random.nextInt(10) == 0 ? 20 : 5);
                due(where + "agrees(" + chamber + ", " + n, x.agrees(chamber, n), plain.agrees(chamber, n));
        }
    }

    private void askTable(String where) {
        int sheet = pick(0, 3);
        int sort = pick(0, 2);
        int n = pick(0, 60);
        int w = pick(1, 10);
        switch (random.nextInt(8)) {
            case 0:
                int newSort = pick(-1, 2);
                int size = random.nextInt(3) == 0 ? pick(0, 60) : pick(0, 16);
                due(where + "sheet(" + sheet + ", " + newSort + ", " + size, x.sheet(sheet, newSort, size),
                    plain.sheet(sheet, newSort, size));
                break;
            case 1:
                long v = random.nextBoolean() ? random.nextLong() : random.nextInt(400) - 200;
                int i = pick(0, 20);
                due(where + "put(" + sheet + ", " + i + ", " + v, x.put(sheet, i, v), plain.put(sheet, i, v));
                break;
            case 2: due(where + "item(" + sheet + ", " + sort + ", " + n, x.item(sheet, sort, n), plain.item(sheet, sort, n));
                break;
            case 3:
            case 4: due(where + "lay(" + sheet + ", " + w, x.lay(sheet, w), plain.lay(sheet, w)); break;
            case 5:
            case 6: due(where + "check(" + sheet + ", " + w, x.check(sheet, w), plain.check(sheet, w)); break;
            default:
                int what = pick(0, 1);
                due(where + "more(" + sheet + ", " + w + ", " + what, x.more(sheet, w, what), plain.more(sheet, w, what));
        }
    }

    private void askKept(String where) {
        int n = pick(1, 6);
        int what = pick(0, 5);
        switch (random.nextInt(12)) {
            case 0: due(where + "seed(" + n + ")", x.seed(n), plain.seed(n)); break;
            case 1: due(where + "lot(" + n + ")", x.lot(n), plain.lot(n)); break;
            case 2: due(where + "keep()", x.keep(), plain.keep()); break;
            case 3: due(where + "again()", x.again(), plain.again()); break;
            default: due(where + "many(" + what + ")", x.many(what), plain.many(what));
        }
    }
}
