import java.util.Arrays;

/** Ways to make a vector from told vectors; ../shared/DOC.md says what every call answers. */
public final class VectorWays {
    public static final int BAD = -1, FULL = -2, NONE = -3, OVER = -16;
    public static final long NO = Long.MIN_VALUE;

    private static final int MISSING = -11, OUTSIDE = -12, OTHER_SORT = -13, BELOW_NOUGHT = -14;
    private static final int FAULTY = -100;

    private static final int MOST_PARTS = 6;
    private static final int MOST_STEP = 4;
    private static final int MOST_WEIGHT = 99;
    private static final int MOST_TAKEN = 60;
    private static final int MOST_CHANGES = 30;
    private static final int MOST_BYTES = 100;
    private static final int MOST_OPEN = 4;
    private static final int MOST_DIGITS = 2;
    private static final int MOST_PERIOD = 6;
    private static final int MOST_PLACES = 60;
    private static final int MOST_WIDTH = 10;
    private static final int SHEETS = 4;
    private static final int BYTES = 0, SHORTS = 1, LONGS = 2, NO_SORT = -1;

    private static final int POINT_REACH = 60;
    private static final int NEAR_REACH = 30;
    private static final int HOME_OFFSET = 1000;

    private static final long GREATEST = 9223372036854775807L;

    /** One bit for each of the numbers 0 to 60: no point that is asked for takes more of a part. */
    private static final long ANY = (1L << (MOST_TAKEN + 1)) - 1;

    private final Parts parts = new Parts();
    private final Parts kept = new Parts();
    private final Changes changes = new Changes();
    private final Tape tape = new Tape();
    private final RuleReader reader = new RuleReader();
    private final Fan fan = new Fan();
    private final FreeTable freeTable = new FreeTable();
    private final WaysTable waysTable = new WaysTable();
    private final Folder folder = new Folder();
    private final Formulas formulas = new Formulas();
    private final Sheet[] sheets = new Sheet[SHEETS];
    private boolean isKept = false;
    private int keptZ = 1;
    private int z = 1;

    public VectorWays() {
        for (int i = 0; i < SHEETS; i++) {
            sheets[i] = new Sheet();
        }
    }

    // ---- parts, rules

    public int part(int a, int b) {
        if (!isStep(a, b)) {
            return BAD;
        }
        return comes(a, b);
    }

    public int arc(int from, int to) {
        if (from < 0 || to > 2 || from >= to) {
            return BAD;
        }
        return comes(from == 0 ? 1 : 0, to == 2 ? 1 : 0);
    }

    public int drop() {
        if (parts.count < 1) {
            return NONE;
        }
        changes.remember(parts);
        parts.count--;
        partsChanged();
        return parts.count;
    }

    public int weigh(int part, int w) {
        if (!parts.has(part) || w < 1 || w > MOST_WEIGHT) {
            return BAD;
        }
        changes.remember(parts);
        int before = parts.weight[part];
        parts.weight[part] = w;
        return before;
    }

    public int partOf(int part, int what) {
        if (!parts.has(part)) {
            return BAD;
        }
        switch (what) {
            case 0: return parts.across[part];
            case 1: return parts.up[part];
            case 2: return parts.weight[part];
            case 3: return fan.rayOf[part];
            case 4: return Long.bitCount(parts.letting[part]);
            default: return BAD;
        }
    }

    public int feed(long eight, int n) {
        if (n < 1 || n > 8) {
            return BAD;
        }
        if (n > MOST_BYTES - tape.count) {
            return FULL;
        }
        for (int i = 0; i < n; i++) {
            tape.take((byte) (eight >>> (8 * i)));
        }
        return tape.count;
    }

    public int rule(int part) {
        if (!parts.has(part)) {
            return BAD;
        }
        int fault = reader.faultIn(tape);
        tape.clear();
        if (fault >= 0) {
            return FAULTY - fault;
        }
        changes.remember(parts);
        parts.letting[part] = reader.answer;
        partsChanged();
        return Long.bitCount(reader.answer);
    }

    public int lets(int part, int k) {
        if (!parts.has(part) || k < 0 || k > MOST_TAKEN) {
            return BAD;
        }
        return parts.allows(part, k) ? 1 : 0;
    }

    public int undo() {
        if (!changes.takeBack(parts)) {
            return NONE;
        }
        partsChanged();
        return changes.size;
    }

    // ---- ways

    public long ways(int x, int y) {
        if (!isPoint(x, y, POINT_REACH)) {
            return NO;
        }
        waysTable.reach(x, y, parts);
        return waysTable.at(0, x, y);
    }

    public long free(int x, int y) {
        if (!isPoint(x, y, POINT_REACH)) {
            return NO;
        }
        freeTable.reach(x, y, parts);
        return freeTable.at(x, y);
    }

    public long strict(int x, int y) {
        if (!isPoint(x, y, POINT_REACH)) {
            return NO;
        }
        freeTable.reach(x, y, parts);
        // One of each part is taken beforehand; the rest is as one likes.
        return freeTable.at(x - parts.acrossTogether(), y - parts.upTogether());
    }

    public int way(int x, int y, int i, int part) {
        if (!isPoint(x, y, POINT_REACH) || i < 0 || !parts.has(part)) {
            return BAD;
        }
        waysTable.reach(x, y, parts);
        if (i >= waysTable.at(0, x, y)) {
            return NONE;
        }
        return waysTable.taken(x, y, i, part, parts);
    }

    public long fold(int what, int x, int y) {
        if (what < 0 || what > 3 || !isPoint(x, y, NEAR_REACH)) {
            return NO;
        }
        long all = folder.folded(what, x, y, parts);
        return what == 0 && all == NONE ? 0 : all;
    }

    // ---- chambers, formulas

    public int ray(int ray, int what) {
        if (!fan.hasRay(ray)) {
            return BAD;
        }
        switch (what) {
            case 0: return fan.across[ray];
            case 1: return fan.up[ray];
            case 2: return fan.members[ray];
            default: return BAD;
        }
    }

    public int period() {
        return fan.period;
    }

    public int unit() {
        return fan.period == 1 ? 1 : 0;
    }

    public int chamberOf(int x, int y) {
        if (!isSpot(x, y)) {
            return BAD;
        }
        for (int i = 0; i < fan.chambers(); i++) {
            if (fan.firstSpan(i, x, y) >= 0 && fan.secondSpan(i, x, y) >= 0) {
                return i;
            }
        }
        return NONE;
    }

    public int home(int chamber, int x, int y, int what) {
        if (!hasFormula(chamber) || !isSpot(x, y)) {
            return BAD;
        }
        formulas.locate(fan, chamber, x, y);
        switch (what) {
            case 0: return formulas.homeX;
            case 1: return formulas.homeY;
            case 2: return HOME_OFFSET + formulas.i;
            case 3: return HOME_OFFSET + formulas.j;
            default: return BAD;
        }
    }

    public long difference(int chamber, int x, int y, int g, int h) {
        if (!hasFormula(chamber) || !isSpot(x, y)) {
            return NO;
        }
        int most = parts.count - 2;
        // h is bounded first, so that the sum of both can't wrap around.
        if (g < 0 || h < 0 || h > most || g > most - h) {
            return NO;
        }
        readyFormula(chamber, x, y);
        formulas.readDifferences(most, freeTable);
        return formulas.differenceAt(g, h);
    }

    public long formula(int chamber, int x, int y) {
        if (!hasFormula(chamber) || !isSpot(x, y)) {
            return NO;
        }
        readyFormula(chamber, x, y);
        return formulas.told(parts.count - 2, freeTable);
    }

    public int agrees(int chamber, int n) {
        if (!hasFormula(chamber) || n < 0 || n > NEAR_REACH) {
            return BAD;
        }
        readyFormula(chamber, n, n);
        freeTable.reach(n, n, parts);
        int same = 0;
        for (int x = 0; x <= n; x++) {
            for (int y = 0; y <= n; y++) {
                formulas.locate(fan, chamber, x, y);
                if (formulas.told(parts.count - 2, freeTable) == freeTable.at(x, y)) {
                    same++;
                }
            }
        }
        return same;
    }

    // ---- tables

    public int sheet(int sheet, int sort, int n) {
        Sheet row = sheetAt(sheet);
        if (row == null || sort < NO_SORT || sort > LONGS) {
            return BAD;
        }
        if (sort == NO_SORT) {
            row.become(NO_SORT, 0);
            return 1;
        }
        if (n > MOST_PLACES) {
            return BAD;
        }
        if (n < 0) {
            return BELOW_NOUGHT;
        }
        row.become(sort, n);
        return 1;
    }

    public int put(int sheet, int i, long v) {
        Sheet row = sheetAt(sheet);
        if (row == null) {
            return BAD;
        }
        if (row.sort == NO_SORT) {
            return MISSING;
        }
        if (!row.hasPlace(i)) {
            return OUTSIDE;
        }
        row.values[i] = row.cut(v);
        return 1;
    }

    public int item(int sheet, int sort, int i) {
        Sheet row = sheetAt(sheet);
        if (row == null || sort < BYTES || sort > LONGS) {
            return BAD;
        }
        if (row.sort == NO_SORT) {
            return MISSING;
        }
        if (row.sort != sort) {
            return OTHER_SORT;
        }
        if (!row.hasPlace(i)) {
            return OUTSIDE;
        }
        return (int) row.values[i];
    }

    public int lay(int sheet, int w) {
        Sheet row = sheetAt(sheet);
        int refusal = tableRefusal(row, w);
        if (row == null || refusal != 0) {
            return refusal;
        }
        waysTable.reach(w - 1, row.lastUp(w), parts);
        // A refused call changes nothing, so all are looked at before the first is laid.
        for (int k = 0; k < row.size; k++) {
            if (waysAtPlace(k, w) > row.greatest()) {
                return OVER;
            }
        }
        for (int k = 0; k < row.size && k < MOST_PLACES; k++) {
            row.values[k] = waysAtPlace(k, w);
        }
        return row.size;
    }

    public int check(int sheet, int w) {
        Sheet row = sheetAt(sheet);
        int refusal = tableRefusal(row, w);
        if (row == null || refusal != 0) {
            return refusal;
        }
        waysTable.reach(w - 1, row.lastUp(w), parts);
        for (int k = 0; k < row.size && k < MOST_PLACES; k++) {
            if (row.values[k] != waysAtPlace(k, w)) {
                return k;
            }
        }
        return NONE;
    }

    public int more(int sheet, int w, int what) {
        if (what < 0 || what > 1) {
            return BAD;
        }
        Sheet row = sheetAt(sheet);
        int refusal = tableRefusal(row, w);
        if (row == null || refusal != 0) {
            return refusal;
        }
        freeTable.reach(w - 1, row.lastUp(w), parts);
        int fitting = 0;
        int first = NONE;
        for (int a = 0; a <= MOST_STEP; a++) {
            for (int b = 0; b <= MOST_STEP; b++) {
                if (isStep(a, b) && isTableWith(row, w, a, b)) {
                    fitting++;
                    first = fitting == 1 ? 10 * a + b : first;
                }
            }
        }
        return what == 0 ? fitting : first;
    }

    // ---- lots, what is kept

    public int seed(int v) {
        int before = z;
        z = v;
        return before;
    }

    public int lot(int n) {
        if (n < 1 || n > MOST_PARTS) {
            return BAD;
        }
        int coming = Math.min(n, MOST_PARTS - parts.count);
        for (int i = 0; i < coming; i++) {
            int a = drawn() % (MOST_STEP + 1);
            int b = drawn() % (MOST_STEP + 1);
            if (a == 0 && b == 0) {
                comes(1, 1);
            } else {
                comes(a, b);
            }
        }
        return coming;
    }

    public int many(int what) {
        switch (what) {
            case 0: return parts.count;
            case 1: return fan.rays;
            case 2: return fan.chambers();
            case 3: return changes.size;
            case 4: return tape.count;
            case 5: return fan.hasFormulas() ? 1 : 0;
            default: return BAD;
        }
    }

    public int keep() {
        kept.become(parts);
        keptZ = z;
        isKept = true;
        return 1;
    }

    public int again() {
        if (!isKept) {
            return NONE;
        }
        parts.become(kept);
        z = keptZ;
        changes.forget();
        partsChanged();
        return parts.count;
    }

    // ---- what several calls need

    private static boolean isStep(int a, int b) {
        return a >= 0 && a <= MOST_STEP && b >= 0 && b <= MOST_STEP && (a > 0 || b > 0);
    }

    private static boolean isPoint(int x, int y, int reach) {
        return x >= 0 && x <= reach && y >= 0 && y <= reach;
    }

    private static boolean isSpot(int x, int y) {
        return x >= -POINT_REACH && x <= POINT_REACH && y >= -POINT_REACH && y <= POINT_REACH;
    }

    private int comes(int a, int b) {
        if (parts.count >= MOST_PARTS) {
            return FULL;
        }
        changes.remember(parts);
        parts.add(a, b);
        partsChanged();
        return parts.count - 1;
    }

    private void partsChanged() {
        fan.spread(parts);
        freeTable.forget();
        waysTable.forget();
    }

    private boolean hasFormula(int chamber) {
        return fan.hasFormulas() && chamber >= 0 && chamber < fan.chambers();
    }

    /** Finds a point's home, and has the table reach all that differences of this chamber need. */
    private void readyFormula(int chamber, int x, int y) {
        formulas.locate(fan, chamber, x, y);
        int most = parts.count - 2;
        freeTable.reach(formulas.farX(most), formulas.farY(most), parts);
    }

    private Sheet sheetAt(int sheet) {
        return sheet >= 0 && sheet < SHEETS ? sheets[sheet] : null;
    }

    /** What refuses a row as a table of bytes or shorts, or 0. */
    private static int tableRefusal(Sheet row, int w) {
        if (row == null || w < 1 || w > MOST_WIDTH) {
            return BAD;
        }
        if (row.sort == NO_SORT) {
            return MISSING;
        }
        return row.sort == LONGS ? OTHER_SORT : 0;
    }

    private long waysAtPlace(int k, int w) {
        return w < 1 ? 0 : waysTable.at(0, k % w, k / w);
    }

    private boolean isTableWith(Sheet row, int w, int a, int b) {
        if (w < 1) {
            return false;
        }
        for (int k = 0; k < row.size && k < MOST_PLACES; k++) {
            if (row.values[k] != freeTable.atWith(k % w, k / w, a, b)) {
                return false;
            }
        }
        return true;
    }

    private int drawn() {
        z = z * 1103515245 + 12345;
        return z >>> 16;
    }

    /** The parts with all that is theirs. */
    private static final class Parts {
        private final int[] across = new int[MOST_PARTS];
        private final int[] up = new int[MOST_PARTS];
        private final int[] weight = new int[MOST_PARTS];
        private final long[] letting = new long[MOST_PARTS];
        private int count = 0;

        private boolean has(int part) {
            return part >= 0 && part < count && part < MOST_PARTS;
        }

        private void add(int a, int b) {
            if (count < 0 || count >= MOST_PARTS) {
                return;
            }
            across[count] = a;
            up[count] = b;
            weight[count] = 1;
            letting[count] = ANY;
            count++;
        }

        private void become(Parts other) {
            for (int p = 0; p < MOST_PARTS; p++) {
                across[p] = other.across[p];
                up[p] = other.up[p];
                weight[p] = other.weight[p];
                letting[p] = other.letting[p];
            }
            count = other.count;
        }

        private boolean allows(int part, int k) {
            return has(part) && (letting[part] >>> k & 1) == 1;
        }

        private int acrossTogether() {
            int all = 0;
            for (int p = 0; p < count && p < MOST_PARTS; p++) {
                all += across[p];
            }
            return all;
        }

        private int upTogether() {
            int all = 0;
            for (int p = 0; p < count && p < MOST_PARTS; p++) {
                all += up[p];
            }
            return all;
        }
    }

    /** How the parts stood before each of the latest changes; the oldest makes room for the newest. */
    private static final class Changes {
        private final Parts[] before = new Parts[MOST_CHANGES];
        private int next = 0;
        private int size = 0;

        private Changes() {
            for (int i = 0; i < MOST_CHANGES; i++) {
                before[i] = new Parts();
            }
        }

        private void remember(Parts parts) {
            Parts slot = slotAt(next);
            if (slot == null) {
                return;
            }
            slot.become(parts);
            next = next + 1 < MOST_CHANGES ? next + 1 : 0;
            size = Math.min(size + 1, MOST_CHANGES);
        }

        private boolean takeBack(Parts parts) {
            int latest = next > 0 ? next - 1 : MOST_CHANGES - 1;
            Parts slot = slotAt(latest);
            if (size < 1 || slot == null) {
                return false;
            }
            parts.become(slot);
            next = latest;
            size--;
            return true;
        }

        private void forget() {
            size = 0;
        }

        private Parts slotAt(int i) {
            return i >= 0 && i < MOST_CHANGES ? before[i] : null;
        }
    }

    /** The bytes of a rule's text, and the token among them that was come to last. */
    private static final class Tape {
        private static final int ENDED = 0, NAME = 1, NUMBER = 2, OTHER = 3, BLANK = 4;

        private final byte[] bytes = new byte[MOST_BYTES];
        private int count = 0;
        private int start = 0;
        private int end = 0;

        private void take(byte one) {
            if (count >= 0 && count < MOST_BYTES) {
                bytes[count] = one;
                count++;
            }
        }

        private void clear() {
            count = 0;
        }

        private void rewind() {
            start = 0;
            end = 0;
        }

        private int nextSort() {
            start = end;
            while (start < count && sortAt(start) == BLANK) {
                start++;
            }
            int sort = sortAt(start);
            end = sort == ENDED ? start : start + 1;
            while (end < count && (sort == NAME || sort == NUMBER) && sortAt(end) == sort) {
                end++;
            }
            return sort;
        }

        private int sortAt(int place) {
            if (place >= count) {
                return ENDED;
            }
            int one = byteAt(place);
            if (one == ' ') {
                return BLANK;
            }
            if (one >= 'a' && one <= 'z') {
                return NAME;
            }
            return one >= '0' && one <= '9' ? NUMBER : OTHER;
        }

        private int byteAt(int place) {
            return place >= 0 && place < count && place < MOST_BYTES ? bytes[place] : -1;
        }

        private boolean spells(String word) {
            if (word == null || end - start != word.length()) {
                return false;
            }
            for (int i = 0; i < word.length(); i++) {
                if (byteAt(start + i) != word.charAt(i)) {
                    return false;
                }
            }
            return true;
        }

        /** The number that the token tells, or -1 if it has too many digits. */
        private int number() {
            if (end - start > MOST_DIGITS) {
                return -1;
            }
            int all = 0;
            for (int place = start; place < end; place++) {
                all = 10 * all + byteAt(place) - '0';
            }
            return all;
        }
    }

    /**
     * Reads a rule as the set of the numbers 0 to 60 that it lets, a bit for each.
     * For every "(" that is open it holds what was joined by "or" and by "and" so far.
     */
    private static final class RuleReader {
        private static final int WANTS_ONE = 0, WANTS_NUMBER = 1, HAS_ONE = 2;
        private static final int MOST = 0, LEAST = 1, BY = 2, IS = 3;

        private final long[] alternatives = new long[MOST_OPEN + 1];
        private final long[] together = new long[MOST_OPEN + 1];
        private final boolean[] denied = new boolean[MOST_OPEN + 1];
        private int open = 0;
        private int state = WANTS_ONE;
        private int test = MOST;
        private long answer = ANY;

        /** The place of the fault, or -1: then the answer is the set. */
        private int faultIn(Tape tape) {
            tape.rewind();
            open = 0;
            begin(0);
            // Each token but the last takes a byte at least.
            for (int tokens = 0; tokens <= MOST_BYTES; tokens++) {
                int sort = tape.nextSort();
                if (sort == Tape.ENDED) {
                    return ends() ? -1 : tape.start;
                }
                if (!takes(tape, sort)) {
                    return tape.start;
                }
            }
            return tape.start;
        }

        private boolean ends() {
            if (state != HAS_ONE || open != 0) {
                return false;
            }
            answer = soFar();
            return true;
        }

        private boolean takes(Tape tape, int sort) {
            if (state == WANTS_NUMBER) {
                return sort == Tape.NUMBER && takesNumber(tape.number());
            }
            if (sort == Tape.NUMBER) {
                return false;
            }
            return state == WANTS_ONE ? takesBeginning(tape) : takesJoint(tape);
        }

        private boolean takesBeginning(Tape tape) {
            if (tape.spells("not")) {
                deny();
                return true;
            }
            if (tape.spells("any")) {
                hold(ANY);
                return true;
            }
            if (tape.spells("(")) {
                if (open >= MOST_OPEN) {
                    return false;
                }
                open++;
                begin(0);
                return true;
            }
            return takesTest(tape);
        }

        private boolean takesTest(Tape tape) {
            if (tape.spells("most")) {
                test = MOST;
            } else if (tape.spells("least")) {
                test = LEAST;
            } else if (tape.spells("by")) {
                test = BY;
            } else if (tape.spells("is")) {
                test = IS;
            } else {
                return false;
            }
            state = WANTS_NUMBER;
            return true;
        }

        private boolean takesNumber(int n) {
            if (n < 0 || n == 0 && test == BY) {
                return false;
            }
            hold(setOf(n));
            return true;
        }

        private boolean takesJoint(Tape tape) {
            if (tape.spells("and")) {
                state = WANTS_ONE;
                return true;
            }
            if (tape.spells("or")) {
                begin(soFar());
                return true;
            }
            if (!tape.spells(")") || open < 1) {
                return false;
            }
            long inside = soFar();
            open--;
            hold(inside);
            return true;
        }

        private boolean isLevel() {
            return open >= 0 && open <= MOST_OPEN;
        }

        private long soFar() {
            return isLevel() ? alternatives[open] | together[open] : 0;
        }

        private void begin(long before) {
            if (isLevel()) {
                alternatives[open] = before;
                together[open] = ANY;
                denied[open] = false;
            }
            state = WANTS_ONE;
        }

        private void deny() {
            if (isLevel()) {
                denied[open] = !denied[open];
            }
        }

        private void hold(long set) {
            if (isLevel()) {
                together[open] &= denied[open] ? ANY & ~set : set;
                denied[open] = false;
            }
            state = HAS_ONE;
        }

        private long setOf(int n) {
            long set = 0;
            for (int k = 0; k <= MOST_TAKEN; k++) {
                if (passes(k, n)) {
                    set |= 1L << k;
                }
            }
            return set;
        }

        private boolean passes(int k, int n) {
            switch (test) {
                case MOST: return k <= n;
                case LEAST: return k >= n;
                case BY: return n > 0 && k % n == 0;
                default: return k == n;
            }
        }
    }

    /** The rays in their order, the chambers between them, and the period. */
    private static final class Fan {
        private final int[] across = new int[MOST_PARTS];
        private final int[] up = new int[MOST_PARTS];
        private final int[] members = new int[MOST_PARTS];
        private final int[] rayOf = new int[MOST_PARTS];
        private int rays = 0;
        private int period = 1;

        private boolean hasRay(int ray) {
            return ray >= 0 && ray < rays && ray < MOST_PARTS;
        }

        private int chambers() {
            return Math.max(0, rays - 1);
        }

        private boolean hasFormulas() {
            return chambers() > 0 && period <= MOST_PERIOD;
        }

        private void spread(Parts parts) {
            rays = 0;
            for (int p = 0; p < parts.count && p < MOST_PARTS; p++) {
                addRay(parts.across[p], parts.up[p]);
            }
            Arrays.fill(members, 0);
            for (int p = 0; p < parts.count && p < MOST_PARTS; p++) {
                int r = rayTowards(parts.across[p], parts.up[p]);
                rayOf[p] = r;
                if (r >= 0 && r < MOST_PARTS) {
                    members[r]++;
                }
            }
            findPeriod(parts);
        }

        private void addRay(int a, int b) {
            int place = 0;
            while (place < MOST_PARTS && hasRay(place) && turn(across[place], up[place], a, b) > 0) {
                place++;
            }
            boolean isThere = hasRay(place) && turn(across[place], up[place], a, b) == 0;
            if (isThere || rays < 0 || rays >= MOST_PARTS) {
                return;
            }
            for (int r = rays; r > place && r > 0; r--) {
                across[r] = across[r - 1];
                up[r] = up[r - 1];
            }
            int common = commonDivisor(a, b);
            across[place] = common < 1 ? a : a / common;
            up[place] = common < 1 ? b : b / common;
            rays++;
        }

        private int rayTowards(int a, int b) {
            for (int r = 0; r < MOST_PARTS && hasRay(r); r++) {
                if (turn(across[r], up[r], a, b) == 0) {
                    return r;
                }
            }
            return 0;
        }

        private void findPeriod(Parts parts) {
            period = 1;
            for (int p = 0; p < parts.count && p < MOST_PARTS; p++) {
                for (int q = 0; q < p; q++) {
                    period = commonMultiple(period,
                            Math.abs(turn(parts.across[p], parts.up[p], parts.across[q], parts.up[q])));
                }
            }
        }

        /** D of a chamber; both its rays are there. */
        private int size(int chamber) {
            if (!hasRay(chamber) || !hasRay(chamber + 1)) {
                return 0;
            }
            return turn(across[chamber], up[chamber], across[chamber + 1], up[chamber + 1]);
        }

        private int firstSpan(int chamber, int x, int y) {
            if (!hasRay(chamber + 1)) {
                return 0;
            }
            return turn(x, y, across[chamber + 1], up[chamber + 1]);
        }

        private int secondSpan(int chamber, int x, int y) {
            if (!hasRay(chamber)) {
                return 0;
            }
            return turn(across[chamber], up[chamber], x, y);
        }

        /** Above 0 if (c, d) goes more up for what it goes across than (a, b); 0 on one ray. */
        private static int turn(int a, int b, int c, int d) {
            return a * d - b * c;
        }

        private static int commonDivisor(int a, int b) {
            for (int d = MOST_STEP; d > 1; d--) {
                if (a % d == 0 && b % d == 0) {
                    return d;
                }
            }
            return 1;
        }

        /** Parts of one ray have a size of 0, which doesn't count. */
        private static int commonMultiple(int all, int size) {
            if (size < 1) {
                return all;
            }
            for (int times = 1; times < size; times++) {
                if (all * times % size == 0) {
                    return all * times;
                }
            }
            return all * size;
        }
    }

    /** How many free ways there are, for all points as far as they were needed. */
    private static final class FreeTable {
        /**
         * Homes lie below 2 * 4 * period, and m - 2 steps of 4 * period at most go on from them:
         * what differences need stays below 4 * period * m.
         */
        private static final int FAR = MOST_STEP * MOST_PERIOD * MOST_PARTS;

        private final long[] cells = new long[FAR * FAR];
        private int knownX = -1;
        private int knownY = -1;

        private void forget() {
            knownX = -1;
            knownY = -1;
        }

        private void reach(int x, int y, Parts parts) {
            if (x <= knownX && y <= knownY) {
                return;
            }
            knownX = Math.min(Math.max(x, knownX), FAR - 1);
            knownY = Math.min(Math.max(y, knownY), FAR - 1);
            begin();
            for (int p = 0; p < parts.count && p < MOST_PARTS; p++) {
                add(parts.across[p], parts.up[p]);
            }
        }

        private void begin() {
            for (int x = 0; x <= knownX && x < FAR; x++) {
                for (int y = 0; y <= knownY && y < FAR; y++) {
                    cells[x * FAR + y] = 0;
                }
            }
            cells[0] = 1;
        }

        /** The lesser points come first: a part may so be taken again and again. */
        private void add(int a, int b) {
            for (int x = Math.max(a, 0); x <= knownX && x < FAR; x++) {
                for (int y = Math.max(b, 0); y <= knownY && y < FAR; y++) {
                    cells[x * FAR + y] += at(x - a, y - b);
                }
            }
        }

        private long at(int x, int y) {
            boolean isKnown = x >= 0 && x <= knownX && x < FAR && y >= 0 && y <= knownY && y < FAR;
            return isKnown ? cells[x * FAR + y] : 0;
        }

        /** How many there are if a part (a, b) comes. */
        private long atWith(int x, int y, int a, int b) {
            long all = 0;
            int restX = x;
            int restY = y;
            for (int k = 0; k <= MOST_TAKEN && restX >= 0 && restY >= 0; k++) {
                all += at(restX, restY);
                restX -= a;
                restY -= b;
            }
            return all;
        }
    }

    /**
     * How many ways there are: layer p tells those that take parts p and later ones alone,
     * so that the ways can be told one by one in their order.
     */
    private static final class WaysTable {
        private static final int FAR = POINT_REACH + 1;
        private static final int LAYERS = MOST_PARTS + 1;

        private final long[] cells = new long[LAYERS * FAR * FAR];
        private int knownX = -1;
        private int knownY = -1;

        private void forget() {
            knownX = -1;
            knownY = -1;
        }

        private void reach(int x, int y, Parts parts) {
            if (x <= knownX && y <= knownY) {
                return;
            }
            knownX = Math.min(Math.max(x, knownX), FAR - 1);
            knownY = Math.min(Math.max(y, knownY), FAR - 1);
            for (int layer = parts.count; layer >= 0; layer--) {
                for (int atX = 0; atX <= knownX; atX++) {
                    for (int atY = 0; atY <= knownY; atY++) {
                        set(layer, atX, atY, counted(layer, atX, atY, parts));
                    }
                }
            }
        }

        private long counted(int layer, int x, int y, Parts parts) {
            if (!parts.has(layer)) {
                return x == 0 && y == 0 ? 1 : 0;
            }
            int a = parts.across[layer];
            int b = parts.up[layer];
            if (parts.letting[layer] == ANY) {
                // None is taken, or one and then any number again: that spares the sum.
                return at(layer + 1, x, y) + at(layer, x - a, y - b);
            }
            long all = 0;
            int restX = x;
            int restY = y;
            for (int k = 0; k <= MOST_TAKEN && restX >= 0 && restY >= 0; k++) {
                all += parts.allows(layer, k) ? at(layer + 1, restX, restY) : 0;
                restX -= a;
                restY -= b;
            }
            return all;
        }

        private void set(int layer, int x, int y, long many) {
            if (layer >= 0 && layer < LAYERS && x >= 0 && x < FAR && y >= 0 && y < FAR) {
                cells[(layer * FAR + x) * FAR + y] = many;
            }
        }

        private long at(int layer, int x, int y) {
            boolean isKnown = layer >= 0 && layer < LAYERS
                    && x >= 0 && x <= knownX && x < FAR && y >= 0 && y <= knownY && y < FAR;
            return isKnown ? cells[(layer * FAR + x) * FAR + y] : 0;
        }

        /** How many of a part the i-th way takes, i being below their number. */
        private int taken(int x, int y, int i, int part, Parts parts) {
            long ahead = i;
            int restX = x;
            int restY = y;
            for (int p = 0; p <= part && parts.has(p); p++) {
                int k = 0;
                while (k < MOST_TAKEN && ahead >= through(p, k, restX, restY, parts)) {
                    ahead -= through(p, k, restX, restY, parts);
                    k++;
                }
                if (p == part) {
                    return k;
                }
                restX -= k * parts.across[p];
                restY -= k * parts.up[p];
            }
            return NONE;
        }

        /** How many ways there are from part p on that take k of it. */
        private long through(int p, int k, int x, int y, Parts parts) {
            if (!parts.allows(p, k)) {
                return 0;
            }
            return at(p + 1, x - k * parts.across[p], y - k * parts.up[p]);
        }
    }

    /** Folds all ways to make a point into one number; NONE stands for no way, OVER for too great a number. */
    private static final class Folder {
        private static final int FAR = NEAR_REACH + 1;
        private static final int WORTH_SUM = 0, MOST_COPIES = 1, FEWEST_COPIES = 2;

        private final long[] cells = new long[FAR * FAR];

        private long folded(int what, int x, int y, Parts parts) {
            Arrays.fill(cells, NONE);
            cells[0] = what == MOST_COPIES || what == FEWEST_COPIES ? 0 : 1;
            for (int p = 0; p < parts.count && p < MOST_PARTS; p++) {
                // The greater points come first: what they are made of is not yet overwritten.
                for (int atX = x; atX >= 0; atX--) {
                    for (int atY = y; atY >= 0; atY--) {
                        set(atX, atY, foldedWith(p, what, atX, atY, parts));
                    }
                }
            }
            return at(x, y);
        }

        private long foldedWith(int p, int what, int x, int y, Parts parts) {
            long all = NONE;
            long power = 1;
            for (int k = 0; k <= MOST_TAKEN && parts.has(p); k++) {
                int restX = x - k * parts.across[p];
                int restY = y - k * parts.up[p];
                if (restX < 0 || restY < 0) {
                    break;
                }
                long rest = at(restX, restY);
                if (rest != NONE && parts.allows(p, k)) {
                    boolean isCopies = what == MOST_COPIES || what == FEWEST_COPIES;
                    all = joined(what, all, isCopies ? rest + k : product(rest, power));
                }
                power = product(power, parts.weight[p]);
            }
            return all;
        }

        private static long joined(int what, long one, long other) {
            if (one == NONE) {
                return other;
            }
            if (what == FEWEST_COPIES) {
                return Math.min(one, other);
            }
            if (one == OVER || other == OVER) {
                return OVER;
            }
            if (what == WORTH_SUM) {
                return one > GREATEST - other ? OVER : one + other;
            }
            return Math.max(one, other);
        }

        /** Both are 1 or more, or OVER. */
        private static long product(long one, long other) {
            if (one == OVER || other == OVER) {
                return OVER;
            }
            return other > 0 && one > GREATEST / other ? OVER : one * other;
        }

        private void set(int x, int y, long value) {
            if (x >= 0 && x < FAR && y >= 0 && y < FAR) {
                cells[x * FAR + y] = value;
            }
        }

        private long at(int x, int y) {
            return x >= 0 && x < FAR && y >= 0 && y < FAR ? cells[x * FAR + y] : NONE;
        }
    }

    /** The home of a point for a chamber, the differences there, and the formula at the point. */
    private static final class Formulas {
        /** No more than the parts less 2 are added up in a difference. */
        private static final int SIDE = MOST_PARTS - 1;

        private final long[] differences = new long[SIDE * SIDE];
        private int homeX = 0;
        private int homeY = 0;
        private int i = 0;
        private int j = 0;
        private int firstX = 0;
        private int firstY = 0;
        private int secondX = 0;
        private int secondY = 0;

        private void locate(Fan fan, int chamber, int x, int y) {
            int size = fan.period * fan.size(chamber);
            if (size < 1 || !fan.hasRay(chamber) || !fan.hasRay(chamber + 1)) {
                return;
            }
            firstX = fan.period * fan.across[chamber];
            firstY = fan.period * fan.up[chamber];
            secondX = fan.period * fan.across[chamber + 1];
            secondY = fan.period * fan.up[chamber + 1];
            i = Math.floorDiv(fan.firstSpan(chamber, x, y), size);
            j = Math.floorDiv(fan.secondSpan(chamber, x, y), size);
            homeX = x - i * firstX - j * secondX;
            homeY = y - i * firstY - j * secondY;
        }

        /** How far across differences of this chamber go at most, whatever the home; steps are m - 2 at most. */
        private int farX(int most) {
            return firstX + secondX + most * Math.max(firstX, secondX);
        }

        private int farY(int most) {
            return firstY + secondY + most * Math.max(firstY, secondY);
        }

        /** Taking each count from the next one, again and again, makes the differences that the document tells. */
        private void readDifferences(int most, FreeTable table) {
            for (int g = 0; g <= most; g++) {
                for (int h = 0; g + h <= most; h++) {
                    set(g, h, table.at(homeX + g * firstX + h * secondX, homeY + g * firstY + h * secondY));
                }
            }
            for (int times = 1; times <= most; times++) {
                for (int g = most; g >= times; g--) {
                    for (int h = 0; g + h <= most; h++) {
                        set(g, h, differenceAt(g, h) - differenceAt(g - 1, h));
                    }
                }
            }
            for (int times = 1; times <= most; times++) {
                for (int h = most; h >= times; h--) {
                    for (int g = 0; g + h <= most; g++) {
                        set(g, h, differenceAt(g, h) - differenceAt(g, h - 1));
                    }
                }
            }
        }

        private long told(int most, FreeTable table) {
            readDifferences(most, table);
            long all = 0;
            long ofI = 1;
            for (int g = 0; g <= most; g++) {
                long ofJ = 1;
                for (int h = 0; g + h <= most; h++) {
                    all += differenceAt(g, h) * ofI * ofJ;
                    ofJ = chooseNext(ofJ, j, h);
                }
                ofI = chooseNext(ofI, i, g);
            }
            return all;
        }

        /** Choose k and 1 of n, from choose k of n: the division leaves nothing. */
        private static long chooseNext(long ofK, int n, int k) {
            return k < 0 ? 0 : ofK * (n - k) / (k + 1);
        }

        private void set(int g, int h, long value) {
            if (g >= 0 && g < SIDE && h >= 0 && h < SIDE) {
                differences[g * SIDE + h] = value;
            }
        }

        private long differenceAt(int g, int h) {
            return g >= 0 && g < SIDE && h >= 0 && h < SIDE ? differences[g * SIDE + h] : 0;
        }
    }

    /** A row of bytes, shorts or longs, or none. */
    private static final class Sheet {
        private final long[] values = new long[MOST_PLACES];
        private int sort = NO_SORT;
        private int size = 0;

        private void become(int newSort, int n) {
            sort = newSort;
            size = Math.max(0, Math.min(n, MOST_PLACES));
            Arrays.fill(values, 0L);
        }

        private boolean hasPlace(int i) {
            return i >= 0 && i < size && i < MOST_PLACES;
        }

        private long cut(long v) {
            switch (sort) {
                case BYTES: return (byte) v;
                case SHORTS: return (short) v;
                default: return v;
            }
        }

        private long greatest() {
            return sort == BYTES ? 127 : 32767;
        }

        /** How far up the last place of a table of this width lies. */
        private int lastUp(int w) {
            return w < 1 || size < 1 ? 0 : (size - 1) / w;
        }
    }
}
