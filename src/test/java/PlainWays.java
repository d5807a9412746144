import java.math.BigInteger;
import java.util.ArrayDeque;
import java.util.ArrayList;
import java.util.Deque;
import java.util.HashMap;
import java.util.List;
import java.util.Map;
import java.util.TreeMap;
import java.util.function.IntPredicate;

/** What the document says, written down once more in the plainest way, to compare the class with. */
final class PlainWays {
    private static final int BAD = -1, FULL = -2, NONE = -3, OVER = -16;
    private static final long NO = Long.MIN_VALUE;

    private static final class Part {
        final int a;
        final int b;
        int weight = 1;
        IntPredicate rule = k -> true;

        Part(int a, int b) {
            this.a = a;
            this.b = b;
        }

        Part copy() {
            Part other = new Part(a, b);
            other.weight = weight;
            other.rule = rule;
            return other;
        }
    }

    private static final class Fault extends Exception {
        private static final long serialVersionUID = 1;
        final int place;

        Fault(int place) {
            this.place = place;
        }
    }

    private List<Part> parts = new ArrayList<>();
    private final Deque<Runnable> changes = new ArrayDeque<>();
    private final StringBuilder tape = new StringBuilder();
    private final Object[] sheets = new Object[4];
    private List<Part> kept = null;
    private int keptZ = 0;
    private int z = 1;
    private final Map<String, Long> freeKnown = new HashMap<>();
    private final Map<String, Long> waysKnown = new HashMap<>();

    private void change(Runnable back) {
        changes.addLast(back);
        if (changes.size() > 30) {
            changes.removeFirst();
        }
        forget();
    }

    private void forget() {
        freeKnown.clear();
        waysKnown.clear();
    }

    private boolean isPart(int part) {
        return part >= 0 && part < parts.size();
    }

    int part(int a, int b) {
        if (a < 0 || a > 4 || b < 0 || b > 4 || a == 0 && b == 0) {
            return BAD;
        }
        if (parts.size() == 6) {
            return FULL;
        }
        parts.add(new Part(a, b));
        change(() -> parts.remove(parts.size() - 1));
        return parts.size() - 1;
    }

    int arc(int from, int to) {
        if (from < 0 || from > 2 || to < 0 || to > 2 || from >= to) {
            return BAD;
        }
        return part(from == 0 ? 1 : 0, to == 2 ? 1 : 0);
    }

    int drop() {
        if (parts.isEmpty()) {
            return NONE;
        }
        Part last = parts.remove(parts.size() - 1);
        change(() -> parts.add(last));
        return parts.size();
    }

    int weigh(int part, int w) {
        if (!isPart(part) || w < 1 || w > 99) {
            return BAD;
        }
        Part one = parts.get(part);
        int was = one.weight;
        one.weight = w;
        change(() -> one.weight = was);
        return was;
    }

    int partOf(int part, int what) {
        if (!isPart(part) || what < 0 || what > 4) {
            return BAD;
        }
        Part one = parts.get(part);
        if (what == 3) {
            return rays().indexOf(direction(one));
        }
        return what == 0 ? one.a : what == 1 ? one.b : what == 2 ? one.weight : letting(one.rule);
    }

    private static int letting(IntPredicate rule) {
        int all = 0;
        for (int k = 0; k <= 60; k++) {
            all += rule.test(k) ? 1 : 0;
        }
        return all;
    }

    int feed(long eight, int n) {
        if (n < 1 || n > 8) {
            return BAD;
        }
        if (tape.length() + n > 100) {
            return FULL;
        }
        for (int i = 0; i < n; i++) {
            tape.append((char) (eight & 0xff));
            eight >>= 8;
        }
        return tape.length();
    }

    int rule(int part) {
        if (!isPart(part)) {
            return BAD;
        }
        String text = tape.toString();
        tape.setLength(0);
        try {
            Reading reading = new Reading(text);
            IntPredicate rule = reading.ruleWithin(0);
            if (reading.at < text.length()) {
                throw new Fault(reading.at);
            }
            Part one = parts.get(part);
            IntPredicate was = one.rule;
            one.rule = rule;
            change(() -> one.rule = was);
            return letting(rule);
        } catch (Fault fault) {
            return -100 - fault.place;
        }
    }

    /** Reads by going down; at is always at a token or at the end. */
    private static final class Reading {
        final String text;
        int at = 0;

        Reading(String text) {
            this.text = text;
            skipBlanks();
        }

        void skipBlanks() {
            while (at < text.length() && text.charAt(at) == ' ') {
                at++;
            }
        }

        String token() {
            if (at == text.length()) {
                return "";
            }
            String rest = text.substring(at);
            String letters = rest.replaceFirst("(?s)[^a-z].*", "");
            String digits = rest.replaceFirst("(?s)[^0-9].*", "");
            return !letters.isEmpty() ? letters : !digits.isEmpty() ? digits : rest.substring(0, 1);
        }

        boolean takes(String word) {
            if (!token().equals(word)) {
                return false;
            }
            at += word.length();
            skipBlanks();
            return true;
        }

        IntPredicate ruleWithin(int open) throws Fault {
            IntPredicate left = allWithin(open);
            while (takes("or")) {
                left = left.or(allWithin(open));
            }
            return left;
        }

        IntPredicate allWithin(int open) throws Fault {
            IntPredicate left = oneWithin(open);
            while (takes("and")) {
                left = left.and(oneWithin(open));
            }
            return left;
        }

        IntPredicate oneWithin(int open) throws Fault {
            if (takes("not")) {
                return oneWithin(open).negate();
            }
            if (takes("any")) {
                return k -> true;
            }
            if (open < 4 && takes("(")) {
                IntPredicate inner = ruleWithin(open + 1);
                if (!takes(")")) {
                    throw new Fault(at);
                }
                return inner;
            }
            if (takes("most")) {
                int n = number(0);
                return k -> k <= n;
            }
            if (takes("least")) {
                int n = number(0);
                return k -> k >= n;
            }
            if (takes("by")) {
                int n = number(1);
                return k -> k % n == 0;
            }
            if (takes("is")) {
                int n = number(0);
                return k -> k == n;
            }
            throw new Fault(at);
        }

        int number(int least) throws Fault {
            String token = token();
            if (!token.matches("[0-9]{1,2}") || Integer.parseInt(token) < least) {
                throw new Fault(at);
            }
            at += token.length();
            skipBlanks();
            return Integer.parseInt(token);
        }
    }

    int lets(int part, int k) {
        if (!isPart(part) || k < 0 || k > 60) {
            return BAD;
        }
        return parts.get(part).rule.test(k) ? 1 : 0;
    }

    int undo() {
        if (changes.isEmpty()) {
            return NONE;
        }
        changes.removeLast().run();
        forget();
        return changes.size();
    }

    /** Ways by taking the first part any number of times, and making the rest of the others. */
    private long count(int from, int x, int y, boolean byRules) {
        if (x < 0 || y < 0) {
            return 0;
        }
        if (from == parts.size()) {
            return x == 0 && y == 0 ? 1 : 0;
        }
        Map<String, Long> known = byRules ? waysKnown : freeKnown;
        String name = from + " " + x + " " + y;
        Long told = known.get(name);
        if (told != null) {
            return told;
        }
        Part one = parts.get(from);
        long all = 0;
        for (int k = 0; k * one.a <= x && k * one.b <= y; k++) {
            if (!byRules || one.rule.test(k)) {
                all = Math.addExact(all, count(from + 1, x - k * one.a, y - k * one.b, byRules));
            }
        }
        known.put(name, all);
        return all;
    }

    private static boolean isFrom(int least, int greatest, int x, int y) {
        return x >= least && x <= greatest && y >= least && y <= greatest;
    }

    long ways(int x, int y) {
        return isFrom(0, 60, x, y) ? count(0, x, y, true) : NO;
    }

    long free(int x, int y) {
        return isFrom(0, 60, x, y) ? count(0, x, y, false) : NO;
    }

    long strict(int x, int y) {
        return isFrom(0, 60, x, y) ? countStrictly(0, x, y) : NO;
    }

    /** By leaving out: all, less those without one part, and so on. */
    private long countStrictly(int from, int x, int y) {
        List<Part> all = parts;
        long together = 0;
        for (int without = 0; without < 1 << all.size(); without++) {
            List<Part> some = new ArrayList<>();
            for (int p = 0; p < all.size(); p++) {
                if ((without >> p & 1) == 0) {
                    some.add(all.get(p));
                }
            }
            parts = some;
            forget();
            together += count(from, x, y, false) * (Integer.bitCount(without) % 2 == 0 ? 1 : -1);
        }
        parts = all;
        forget();
        return together;
    }

    int way(int x, int y, int i, int part) {
        if (!isFrom(0, 60, x, y) || i < 0 || !isPart(part)) {
            return BAD;
        }
        if (count(0, x, y, true) <= i) {
            return NONE;
        }
        long ahead = i;
        for (int p = 0; ; p++) {
            Part one = parts.get(p);
            int k = 0;
            for (; ; k++) {
                long here = one.rule.test(k) ? count(p + 1, x - k * one.a, y - k * one.b, true) : 0;
                if (ahead < here) {
                    break;
                }
                ahead -= here;
            }
            if (p == part) {
                return k;
            }
            x -= k * one.a;
            y -= k * one.b;
        }
    }

    long fold(int what, int x, int y) {
        if (what < 0 || what > 3 || !isFrom(0, 30, x, y)) {
            return NO;
        }
        BigInteger all = folded(what, 0, x, y, new HashMap<>());
        if (all == null) {
            return what == 0 ? 0 : NONE;
        }
        return all.bitLength() > 63 ? OVER : all.longValueExact();
    }

    private BigInteger folded(int what, int from, int x, int y, Map<String, BigInteger> known) {
        if (from == parts.size()) {
            return x != 0 || y != 0 ? null : what == 0 || what == 3 ? BigInteger.ONE : BigInteger.ZERO;
        }
        String name = from + " " + x + " " + y;
        if (known.containsKey(name)) {
            return known.get(name);
        }
        Part one = parts.get(from);
        BigInteger all = null;
        for (int k = 0; k * one.a <= x && k * one.b <= y; k++) {
            BigInteger rest = one.rule.test(k) ? folded(what, from + 1, x - k * one.a, y - k * one.b, known) : null;
            if (rest != null) {
                BigInteger here = what == 0 || what == 3
                    ? rest.multiply(BigInteger.valueOf(one.weight).pow(k)) : rest.add(BigInteger.valueOf(k));
                all = all == null ? here : what == 0 ? all.add(here) : what == 2 ? all.min(here) : all.max(here);
            }
        }
        known.put(name, all);
        return all;
    }

    /** A direction as the part of it that goes least far. */
    private static List<Integer> direction(Part part) {
        int common = BigInteger.valueOf(part.a).gcd(BigInteger.valueOf(part.b)).intValue();
        return List.of(part.a / common, part.b / common);
    }

    private List<List<Integer>> rays() {
        TreeMap<Double, List<Integer>> all = new TreeMap<>();
        for (Part part : parts) {
            all.put(Math.atan2(direction(part).get(1), direction(part).get(0)), direction(part));
        }
        return new ArrayList<>(all.values());
    }

    int ray(int ray, int what) {
        List<List<Integer>> rays = rays();
        if (ray < 0 || ray >= rays.size() || what < 0 || what > 2) {
            return BAD;
        }
        if (what < 2) {
            return rays.get(ray).get(what);
        }
        return (int) parts.stream().filter(part -> direction(part).equals(rays.get(ray))).count();
    }

    int period() {
        BigInteger all = BigInteger.ONE;
        for (Part one : parts) {
            for (Part other : parts) {
                if (!direction(one).equals(direction(other))) {
                    BigInteger size = BigInteger.valueOf(Math.abs(one.a * other.b - one.b * other.a));
                    all = all.multiply(size).divide(all.gcd(size));
                }
            }
        }
        return all.intValueExact();
    }

    int unit() {
        for (Part one : parts) {
            for (Part other : parts) {
                if (Math.abs(one.a * other.b - one.b * other.a) > 1) {
                    return 0;
                }
            }
        }
        return 1;
    }

    private int chambers() {
        return Math.max(rays().size() - 1, 0);
    }

    private boolean areFormulas() {
        return chambers() > 0 && period() <= 6;
    }

    /** a, b, c, d, D of a chamber. */
    private int[] walls(int chamber) {
        List<Integer> first = rays().get(chamber);
        List<Integer> second = rays().get(chamber + 1);
        int d = first.get(0) * second.get(1) - first.get(1) * second.get(0);
        return new int[] {first.get(0), first.get(1), second.get(0), second.get(1), d};
    }

    int chamberOf(int x, int y) {
        if (!isFrom(-60, 60, x, y)) {
            return BAD;
        }
        for (int i = 0; i < chambers(); i++) {
            int[] w = walls(i);
            if (x * w[3] - y * w[2] >= 0 && y * w[0] - x * w[1] >= 0) {
                return i;
            }
        }
        return NONE;
    }

    /** x, y, i, j of the home, by going step by step till the spans are as told. */
    private int[] homeOf(int chamber, int x, int y) {
        int[] w = walls(chamber);
        int period = period();
        int i = 0;
        int j = 0;
        while (true) {
            int homeX = x - period * (i * w[0] + j * w[2]);
            int homeY = y - period * (i * w[1] + j * w[3]);
            int s = homeX * w[3] - homeY * w[2];
            int t = homeY * w[0] - homeX * w[1];
            int stepI = s < 0 ? -1 : s >= period * w[4] ? 1 : 0;
            int stepJ = t < 0 ? -1 : t >= period * w[4] ? 1 : 0;
            if (stepI == 0 && stepJ == 0) {
                return new int[] {homeX, homeY, i, j};
            }
            i += stepI;
            j += stepJ;
        }
    }

    private boolean isHome(int chamber, int x, int y) {
        return areFormulas() && chamber >= 0 && chamber < chambers() && isFrom(-60, 60, x, y);
    }

    int home(int chamber, int x, int y, int what) {
        if (!isHome(chamber, x, y) || what < 0 || what > 3) {
            return BAD;
        }
        return homeOf(chamber, x, y)[what] + (what > 1 ? 1000 : 0);
    }

    long difference(int chamber, int x, int y, int g, int h) {
        if (!isHome(chamber, x, y) || g < 0 || h < 0 || (long) g + h > parts.size() - 2) {
            return NO;
        }
        int[] home = homeOf(chamber, x, y);
        return differenceAt(walls(chamber), period(), home[0], home[1], g, h);
    }

    private long differenceAt(int[] w, int period, int x, int y, int g, int h) {
        if (g > 0) {
            return differenceAt(w, period, x + period * w[0], y + period * w[1], g - 1, h)
                - differenceAt(w, period, x, y, g - 1, h);
        }
        if (h > 0) {
            return differenceAt(w, period, x + period * w[2], y + period * w[3], g, h - 1)
                - differenceAt(w, period, x, y, g, h - 1);
        }
        return count(0, x, y, false);
    }

    private static BigInteger choose(int n, int k) {
        BigInteger above = BigInteger.ONE;
        BigInteger below = BigInteger.ONE;
        for (int f = 0; f < k; f++) {
            above = above.multiply(BigInteger.valueOf(n - f));
            below = below.multiply(BigInteger.valueOf(k - f));
        }
        return above.divide(below);
    }

    long formula(int chamber, int x, int y) {
        if (!isHome(chamber, x, y)) {
            return NO;
        }
        int[] home = homeOf(chamber, x, y);
        BigInteger all = BigInteger.ZERO;
        for (int g = 0; g <= parts.size() - 2; g++) {
            for (int h = 0; g + h <= parts.size() - 2; h++) {
                BigInteger step = BigInteger.valueOf(difference(chamber, x, y, g, h));
                all = all.add(step.multiply(choose(home[2], g)).multiply(choose(home[3], h)));
            }
        }
        return all.longValueExact();
    }

    int agrees(int chamber, int n) {
        if (!isHome(chamber, 0, 0) || n < 0 || n > 30) {
            return BAD;
        }
        int same = 0;
        for (int x = 0; x <= n; x++) {
            for (int y = 0; y <= n; y++) {
                same += formula(chamber, x, y) == free(x, y) ? 1 : 0;
            }
        }
        return same;
    }

    int sheet(int sheet, int sort, int n) {
        if (sheet < 0 || sheet > 3 || sort < -1 || sort > 2 || sort >= 0 && n > 60) {
            return BAD;
        }
        if (sort >= 0 && n < 0) {
            return -14;
        }
        sheets[sheet] = sort < 0 ? null : sort == 0 ? new byte[n] : sort == 1 ? new short[n] : new long[n];
        return 1;
    }

    private static int size(Object row) {
        return row instanceof byte[] bytes ? bytes.length : row instanceof short[] shorts ? shorts.length
            : ((long[]) row).length;
    }

    private static int sort(Object row) {
        return row instanceof byte[] ? 0 : row instanceof short[] ? 1 : 2;
    }

    private static long value(Object row, int i) {
        return row instanceof byte[] bytes ? bytes[i] : row instanceof short[] shorts ? shorts[i] : ((long[]) row)[i];
    }

    private static void set(Object row, int i, long v) {
        if (row instanceof byte[] bytes) {
            bytes[i] = (byte) v;
        } else if (row instanceof short[] shorts) {
            shorts[i] = (short) v;
        } else {
            ((long[]) row)[i] = v;
        }
    }

    int put(int sheet, int i, long v) {
        if (sheet < 0 || sheet > 3) {
            return BAD;
        }
        Object row = sheets[sheet];
        if (row == null) {
            return -11;
        }
        if (i < 0 || i >= size(row)) {
            return -12;
        }
        set(row, i, v);
        return 1;
    }

    int item(int sheet, int sort, int i) {
        if (sheet < 0 || sheet > 3 || sort < 0 || sort > 2) {
            return BAD;
        }
        Object row = sheets[sheet];
        if (row == null) {
            return -11;
        }
        if (sort(row) != sort) {
            return -13;
        }
        return i < 0 || i >= size(row) ? -12 : (int) value(row, i);
    }

    private int refusal(int sheet, int w) {
        if (sheet < 0 || sheet > 3 || w < 1 || w > 10) {
            return BAD;
        }
        return sheets[sheet] == null ? -11 : sort(sheets[sheet]) == 2 ? -13 : 0;
    }

    int lay(int sheet, int w) {
        if (refusal(sheet, w) != 0) {
            return refusal(sheet, w);
        }
        Object row = sheets[sheet];
        long greatest = sort(row) == 0 ? Byte.MAX_VALUE : Short.MAX_VALUE;
        for (int k = 0; k < size(row); k++) {
            if (count(0, k % w, k / w, true) > greatest) {
                return OVER;
            }
        }
        for (int k = 0; k < size(row); k++) {
            set(row, k, count(0, k % w, k / w, true));
        }
        return size(row);
    }

    int check(int sheet, int w) {
        if (refusal(sheet, w) != 0) {
            return refusal(sheet, w);
        }
        Object row = sheets[sheet];
        for (int k = 0; k < size(row); k++) {
            if (count(0, k % w, k / w, true) != value(row, k)) {
                return k;
            }
        }
        return NONE;
    }

    int more(int sheet, int w, int what) {
        if (what < 0 || what > 1 || refusal(sheet, w) != 0) {
            return what < 0 || what > 1 ? BAD : refusal(sheet, w);
        }
        Object row = sheets[sheet];
        List<Integer> fitting = new ArrayList<>();
        for (int ab = 1; ab < 25; ab++) {
            parts.add(new Part(ab / 5, ab % 5));
            forget();
            boolean fits = true;
            for (int k = 0; k < size(row) && fits; k++) {
                fits = count(0, k % w, k / w, false) == value(row, k);
            }
            if (fits) {
                fitting.add(10 * (ab / 5) + ab % 5);
            }
            parts.remove(parts.size() - 1);
            forget();
        }
        return what == 0 ? fitting.size() : fitting.isEmpty() ? NONE : fitting.get(0);
    }

    int seed(int v) {
        int was = z;
        z = v;
        return was;
    }

    private int draw() {
        z = z * 1103515245 + 12345;
        return z >>> 16;
    }

    int lot(int n) {
        if (n < 1 || n > 6) {
            return BAD;
        }
        int came = 0;
        while (came < n && parts.size() < 6) {
            int a = draw() % 5;
            int b = draw() % 5;
            part(a + b == 0 ? 1 : a, a + b == 0 ? 1 : b);
            came++;
        }
        return came;
    }

    int many(int what) {
        int[] all = {parts.size(), rays().size(), chambers(), changes.size(), tape.length(), areFormulas() ? 1 : 0};
        return what < 0 || what >= all.length ? BAD : all[what];
    }

    private static List<Part> copies(List<Part> parts) {
        List<Part> all = new ArrayList<>();
        for (Part part : parts) {
            all.add(part.copy());
        }
        return all;
    }

    int keep() {
        kept = copies(parts);
        keptZ = z;
        return 1;
    }

    int again() {
        if (kept == null) {
            return NONE;
        }
        parts = copies(kept);
        z = keptZ;
        changes.clear();
        forget();
        return parts.size();
    }
}
