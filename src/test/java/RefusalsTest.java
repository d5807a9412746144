import java.util.ArrayList;
import java.util.List;
import java.util.function.Supplier;
import java.util.function.ToLongFunction;

/** Refused calls of all promises: what each answers, which refusal is named first, and that nothing is changed. */
public final class RefusalsTest {
    private static final Edges EDGES = new Edges();

    public static void main(String[] args) {
        partsChangeNothing();
        waysChangeNothing();
        chambersChangeNothing();
        tablesChangeNothing();
        lotsChangeNothing();
        faultUsesUpTheTape();
        namedFirst();
        numbersOfRefusals();
        numbersBelowNought();
        longsAnswerNo();
        EDGES.end();
    }

    // Objects to ask

    private static VectorWays empty() {
        return new VectorWays();
    }

    /** Something of everything: parts, rules, weights, a tape, sheets of each sort, changes undone, another state kept. */
    private static VectorWays busy() {
        VectorWays x = Edges.ruled("is 1 or by 3", 2, 1, 1, 1);
        x.weigh(1, 9);
        x.seed(1234);
        x.keep();
        x.part(0, 1);
        x.weigh(0, 5);
        x.undo();
        x.seed(-77);
        Due.feed(x, "most 7");
        x.sheet(0, 0, 3);
        x.put(0, 1, -3);
        x.sheet(1, 1, 4);
        x.put(1, 3, 300);
        x.sheet(2, 2, 2);
        x.put(2, 0, 1L << 31);
        return x;
    }

    /** As many parts and bytes as there can be. */
    private static VectorWays full() {
        VectorWays x = busy();
        for (int i = 0; i < 3; i++) {
            x.part(1, i);
        }
        Due.feed(x, " ".repeat(94));
        return x;
    }

    /** Parts that have 136 ways to make (0, 15), which are too many for a byte. */
    private static VectorWays many() {
        VectorWays x = Due.with(4, 3, 0, 1, 0, 1, 0, 1);
        x.weigh(1, 99);
        x.sheet(0, 0, 16);
        x.put(0, 0, 5);
        x.put(0, 15, 7);
        x.sheet(1, 1, 60);
        x.put(1, 59, 8);
        return x;
    }

    /** All that an object tells, by calls that change it, too. */
    private static List<Long> told(VectorWays x) {
        List<Long> all = new ArrayList<>();
        tellSheets(x, all);
        tellParts(x, all);
        tellWays(x, all);
        int z = x.seed(0);
        all.add((long) z);
        x.seed(z);
        for (int left = x.many(3); left >= 0; left--) {
            all.add((long) x.undo());
            all.add((long) x.many(0));
            all.add((long) x.partOf(0, 2));
            all.add((long) x.partOf(1, 2));
            all.add((long) x.partOf(0, 4));
        }
        all.add((long) x.again());
        tellParts(x, all);
        all.add((long) x.seed(0));
        tellTape(x, all);
        return all;
    }

    private static void tellSheets(VectorWays x, List<Long> all) {
        for (int sheet = 0; sheet <= 3; sheet++) {
            for (int sort = 0; sort <= 2; sort++) {
                all.add((long) x.item(sheet, sort, 0));
                all.add((long) x.item(sheet, sort, 1));
                all.add((long) x.item(sheet, sort, 3));
                all.add((long) x.item(sheet, sort, 15));
                all.add((long) x.item(sheet, sort, 59));
            }
        }
    }

    private static void tellParts(VectorWays x, List<Long> all) {
        for (int what = 0; what <= 5; what++) {
            all.add((long) x.many(what));
        }
        for (int p = 0; p < x.many(0); p++) {
            for (int what = 0; what <= 4; what++) {
                all.add((long) x.partOf(p, what));
            }
        }
        for (int ray = 0; ray < x.many(1); ray++) {
            for (int what = 0; what <= 2; what++) {
                all.add((long) x.ray(ray, what));
            }
        }
        all.add((long) x.period());
    }

    private static void tellWays(VectorWays x, List<Long> all) {
        for (int at = 0; at <= 12; at += 3) {
            all.add(x.ways(at, at));
            all.add(x.free(at, at + 1));
            all.add(x.strict(at + 1, at + 2));
            all.add(x.fold(0, at, at));
            all.add(x.formula(0, at, at));
        }
    }

    /** What stands on the tape tells itself by the rule, or by the fault, that it is. */
    private static void tellTape(VectorWays x, List<Long> all) {
        x.part(1, 1);
        all.add((long) x.rule(0));
        for (int k = 0; k <= 12; k++) {
            all.add((long) x.lets(0, k));
        }
    }

    private static void refused(String call, Supplier<VectorWays> made, ToLongFunction<VectorWays> asked, long due) {
        VectorWays x = made.get();
        EDGES.due(call, asked.applyAsLong(x), due);
        List<Long> got = told(x);
        List<Long> want = told(made.get());
        for (int i = 0; i < want.size() || i < got.size(); i++) {
            // NO stands for what only one of both tells.
            EDGES.due(call + " changes nothing: " + i + "th of what is told then",
                i < got.size() ? got.get(i) : Edges.NO + 1, i < want.size() ? want.get(i) : Edges.NO + 2);
        }
    }

    private static void partsChangeNothing() {
        EDGES.terms("such a call changes nothing (but that THE TAPE is used up by rule())");
        refused("promise 2: part(0, 0)", RefusalsTest::busy, x -> x.part(0, 0), Edges.BAD);
        refused("promise 2: part(5, 1)", RefusalsTest::busy, x -> x.part(5, 1), Edges.BAD);
        refused("promise 2: part(1, -1)", RefusalsTest::empty, x -> x.part(1, -1), Edges.BAD);
        refused("promise 2: a seventh part", RefusalsTest::full, x -> x.part(1, 1), Edges.FULL);
        refused("promise 3: arc(1, 1)", RefusalsTest::busy, x -> x.arc(1, 1), Edges.BAD);
        refused("promise 3: arc(0, 3)", RefusalsTest::empty, x -> x.arc(0, 3), Edges.BAD);
        refused("promise 3: a seventh arc", RefusalsTest::full, x -> x.arc(0, 1), Edges.FULL);
        refused("promise 4: drop() of none", RefusalsTest::empty, x -> x.drop(), Edges.NONE);
        refused("promise 5: weigh(0, 0)", RefusalsTest::busy, x -> x.weigh(0, 0), Edges.BAD);
        refused("promise 5: weigh(0, 100)", RefusalsTest::busy, x -> x.weigh(0, 100), Edges.BAD);
        refused("promise 5: weigh(3, 1)", RefusalsTest::busy, x -> x.weigh(3, 1), Edges.BAD);
        refused("promise 6: partOf(0, 5)", RefusalsTest::busy, x -> x.partOf(0, 5), Edges.BAD);
        refused("promise 6: partOf(3, 0)", RefusalsTest::busy, x -> x.partOf(3, 0), Edges.BAD);
        refused("promise 7: feed(.., 0)", RefusalsTest::busy, x -> x.feed(-1, 0), Edges.BAD);
        refused("promise 7: feed(.., 9)", RefusalsTest::busy, x -> x.feed(-1, 9), Edges.BAD);
        refused("promise 7: feed(.., 1) to 100", RefusalsTest::full, x -> x.feed('x', 1), Edges.FULL);
        refused("promise 7: feed(.., 8) to 96", RefusalsTest::nearlyFull, x -> x.feed(-1, 8), Edges.FULL);
        refused("promise 7: feed(.., 5) to 96", RefusalsTest::nearlyFull, x -> x.feed(-1, 5), Edges.FULL);
        refused("promise 8: rule(3)", RefusalsTest::busy, x -> x.rule(3), Edges.BAD);
        refused("promise 8: rule(-1)", RefusalsTest::busy, x -> x.rule(-1), Edges.BAD);
        refused("promise 8: rule(0) without parts", RefusalsTest::empty, x -> x.rule(0), Edges.BAD);
        refused("promise 8: rule(6)", RefusalsTest::full, x -> x.rule(6), Edges.BAD);
        refused("promise 8: an empty tape", RefusalsTest::many, x -> x.rule(0), -100);
        refused("promise 9: lets(0, 61)", RefusalsTest::busy, x -> x.lets(0, 61), Edges.BAD);
        refused("promise 9: lets(3, 0)", RefusalsTest::busy, x -> x.lets(3, 0), Edges.BAD);
        refused("promise 10: undo() of none", RefusalsTest::empty, x -> x.undo(), Edges.NONE);
        refused("promise 10: undo() of none any more", RefusalsTest::allUndone, x -> x.undo(), Edges.NONE);
        refused("promise 32: many(6)", RefusalsTest::busy, x -> x.many(6), Edges.BAD);
        refused("promise 32: many(-1)", RefusalsTest::busy, x -> x.many(-1), Edges.BAD);
    }

    private static VectorWays nearlyFull() {
        return Edges.withBlanks(96);
    }

    private static VectorWays allUndone() {
        VectorWays x = busy();
        x.again();
        return x;
    }

    private static void waysChangeNothing() {
        EDGES.terms("such a call changes nothing");
        refused("promise 11: ways(61, 0)", RefusalsTest::busy, x -> x.ways(61, 0), Edges.NO);
        refused("promise 11: ways(0, -1)", RefusalsTest::busy, x -> x.ways(0, -1), Edges.NO);
        refused("promise 12: free(61, 0)", RefusalsTest::busy, x -> x.free(61, 0), Edges.NO);
        refused("promise 12: free(0, -1)", RefusalsTest::busy, x -> x.free(0, -1), Edges.NO);
        refused("promise 13: strict(61, 0)", RefusalsTest::busy, x -> x.strict(61, 0), Edges.NO);
        refused("promise 13: strict(0, -1)", RefusalsTest::busy, x -> x.strict(0, -1), Edges.NO);
        refused("promise 14: way(0, 0, -1, 0)", RefusalsTest::busy, x -> x.way(0, 0, -1, 0), Edges.BAD);
        refused("promise 14: way(0, 0, 0, 3)", RefusalsTest::busy, x -> x.way(0, 0, 0, 3), Edges.BAD);
        refused("promise 14: way(3, 3, 99, 0)", RefusalsTest::busy, x -> x.way(3, 3, 99, 0), Edges.NONE);
        refused("promise 15: fold(4, 0, 0)", RefusalsTest::busy, x -> x.fold(4, 0, 0), Edges.NO);
        refused("promise 15: fold(0, 31, 0)", RefusalsTest::busy, x -> x.fold(0, 31, 0), Edges.NO);
        refused("promise 15: fold(1, 1, 0)", RefusalsTest::busy, x -> x.fold(1, 1, 0), Edges.NONE);
        refused("promise 15: fold(0, 0, 30)", RefusalsTest::many, x -> x.fold(0, 0, 30), Edges.OVER);
        refused("promise 15: fold(3, 0, 30)", RefusalsTest::many, x -> x.fold(3, 0, 30), Edges.OVER);
    }

    private static void chambersChangeNothing() {
        EDGES.terms("such a call changes nothing");
        refused("promise 16: ray(3, 0)", RefusalsTest::busy, x -> x.ray(3, 0), Edges.BAD);
        refused("promise 16: ray(0, 3)", RefusalsTest::busy, x -> x.ray(0, 3), Edges.BAD);
        refused("promise 19: chamberOf(61, 0)", RefusalsTest::busy, x -> x.chamberOf(61, 0), Edges.BAD);
        refused("promise 19: chamberOf(-1, 0)", RefusalsTest::busy, x -> x.chamberOf(-1, 0), Edges.NONE);
        refused("promise 20: home(2, 0, 0, 0)", RefusalsTest::busy, x -> x.home(2, 0, 0, 0), Edges.BAD);
        refused("promise 20: home(0, 0, 0, 4)", RefusalsTest::busy, x -> x.home(0, 0, 0, 4), Edges.BAD);
        refused("promise 20: home() without formulas", RefusalsTest::noFormulas, x -> x.home(0, 0, 0, 0), Edges.BAD);
        refused("promise 21: difference(0, 0, 0, 1, 1)", RefusalsTest::busy, x -> x.difference(0, 0, 0, 1, 1), Edges.NO);
        refused("promise 21: difference() without formulas", RefusalsTest::noFormulas, x -> x.difference(0, 0, 0, 0, 0),
            Edges.NO);
        refused("promise 22: formula(0, 61, 0)", RefusalsTest::busy, x -> x.formula(0, 61, 0), Edges.NO);
        refused("promise 22: formula() without formulas", RefusalsTest::noFormulas, x -> x.formula(0, 0, 0), Edges.NO);
        refused("promise 23: agrees(0, 31)", RefusalsTest::busy, x -> x.agrees(0, 31), Edges.BAD);
        refused("promise 23: agrees() without formulas", RefusalsTest::noFormulas, x -> x.agrees(0, 1), Edges.BAD);
    }

    private static VectorWays noFormulas() {
        VectorWays x = busy();
        x.part(0, 4);
        x.part(4, 0);
        return x;
    }

    private static void tablesChangeNothing() {
        EDGES.terms("such a call changes nothing");
        refused("promise 24: sheet(4, 0, 1)", RefusalsTest::busy, x -> x.sheet(4, 0, 1), Edges.BAD);
        for (int sheet = 0; sheet <= 3; sheet++) {
            int at = sheet;
            refused("promise 24: sheet(" + at + ", 3, 1)", RefusalsTest::busy, x -> x.sheet(at, 3, 1), Edges.BAD);
            refused("promise 24: sheet(" + at + ", -2, 1)", RefusalsTest::busy, x -> x.sheet(at, -2, 1), Edges.BAD);
            refused("promise 24: sheet(" + at + ", 1, 61)", RefusalsTest::busy, x -> x.sheet(at, 1, 61), Edges.BAD);
            refused("promise 24: sheet(" + at + ", 1, -1)", RefusalsTest::busy, x -> x.sheet(at, 1, -1), -14);
            refused("promise 27: lay(" + at + ", 0)", RefusalsTest::busy, x -> x.lay(at, 0), Edges.BAD);
            refused("promise 27: lay(" + at + ", 11)", RefusalsTest::busy, x -> x.lay(at, 11), Edges.BAD);
        }
        refused("promise 25: put(4, 0, 9)", RefusalsTest::busy, x -> x.put(4, 0, 9), Edges.BAD);
        refused("promise 25: put(3, 0, 9)", RefusalsTest::busy, x -> x.put(3, 0, 9), -11);
        refused("promise 25: put(0, 3, 9)", RefusalsTest::busy, x -> x.put(0, 3, 9), -12);
        refused("promise 25: put(1, -1, 9)", RefusalsTest::busy, x -> x.put(1, -1, 9), -12);
        refused("promise 25: put(2, 2, 9)", RefusalsTest::busy, x -> x.put(2, 2, 9), -12);
        refused("promise 26: item(0, 1, 0)", RefusalsTest::busy, x -> x.item(0, 1, 0), -13);
        refused("promise 26: item(3, 0, 0)", RefusalsTest::busy, x -> x.item(3, 0, 0), -11);
        refused("promise 26: item(0, 3, 0)", RefusalsTest::busy, x -> x.item(0, 3, 0), Edges.BAD);
        refused("promise 26: item(0, 0, 3)", RefusalsTest::busy, x -> x.item(0, 0, 3), -12);
        refused("promise 27: lay(3, 1)", RefusalsTest::busy, x -> x.lay(3, 1), -11);
        refused("promise 27: lay(2, 1)", RefusalsTest::busy, x -> x.lay(2, 1), -13);
        refused("promise 27: lay(0, 1) of 136", RefusalsTest::many, x -> x.lay(0, 1), Edges.OVER);
        refused("promise 28: check(0, 0)", RefusalsTest::busy, x -> x.check(0, 0), Edges.BAD);
        refused("promise 28: check(3, 1)", RefusalsTest::busy, x -> x.check(3, 1), -11);
        refused("promise 28: check(2, 1)", RefusalsTest::busy, x -> x.check(2, 1), -13);
        refused("promise 29: more(0, 1, 2)", RefusalsTest::busy, x -> x.more(0, 1, 2), Edges.BAD);
        refused("promise 29: more(3, 1, 0)", RefusalsTest::busy, x -> x.more(3, 1, 0), -11);
        refused("promise 29: more(2, 1, 0)", RefusalsTest::busy, x -> x.more(2, 1, 0), -13);
        refused("promise 29: more(0, 1, 1) of none", RefusalsTest::busy, x -> x.more(0, 1, 1), Edges.NONE);
    }

    private static void lotsChangeNothing() {
        EDGES.terms("such a call changes nothing");
        refused("promise 31: lot(0)", RefusalsTest::busy, x -> x.lot(0), Edges.BAD);
        refused("promise 31: lot(7)", RefusalsTest::busy, x -> x.lot(7), Edges.BAD);
        refused("promise 31: lot(7) without room", RefusalsTest::full, x -> x.lot(7), Edges.BAD);
        refused("promise 34: again() of nothing", RefusalsTest::many, x -> x.again(), Edges.NONE);
        refused("promise 34: again() of nothing", RefusalsTest::empty, x -> x.again(), Edges.NONE);
    }

    private static void faultUsesUpTheTape() {
        EDGES.terms("but that THE TAPE is used up by rule()");
        VectorWays x = busy();
        x.feed('?', 1);
        EDGES.due("promise 8: a fault", x.rule(0), -106);
        EDGES.due("promise 8: the tape is used up", x.many(4), 0);
        VectorWays used = busy();
        used.rule(0);
        used.undo();
        List<Long> got = told(x);
        List<Long> want = told(used);
        for (int i = 0; i < want.size(); i++) {
            EDGES.due("promise 8: a fault changes nothing else: " + i + "th", got.get(i), want.get(i));
        }
    }

    private static void namedFirst() {
        EDGES.terms("of several the first named");
        VectorWays full = full();
        EDGES.due("promise 2: BAD ahead of FULL", full.part(0, 5), Edges.BAD);
        EDGES.due("promise 3: BAD ahead of FULL", full.arc(2, 2), Edges.BAD);
        EDGES.due("promise 7: BAD ahead of FULL", full.feed(0, 9), Edges.BAD);
        EDGES.due("promise 7: BAD ahead of FULL", full.feed(0, 0), Edges.BAD);
        EDGES.due("promise 31: BAD, not 0 that there is room for", full.lot(7), Edges.BAD);
        VectorWays x = busy();
        x.feed('?', 1);
        EDGES.due("promise 8: BAD ahead of the FAULT", x.rule(3), Edges.BAD);
        EDGES.due("promise 8: THE TAPE stays", x.many(4), 7);
        EDGES.due("promise 14: BAD ahead of NONE", x.way(61, 0, 99, 0), Edges.BAD);
        EDGES.due("promise 14: BAD ahead of NONE", x.way(1, 0, 99, 3), Edges.BAD);
        EDGES.due("promise 15: NO ahead of NONE", x.fold(4, 1, 0), Edges.NO);
        EDGES.due("promise 15: NO ahead of NONE", x.fold(1, 31, 0), Edges.NO);
        EDGES.due("promise 15: NO ahead of OVER", many().fold(4, 0, 30), Edges.NO);
        EDGES.due("promise 15: NO ahead of OVER", many().fold(0, 0, 31), Edges.NO);
        EDGES.due("promise 19: BAD ahead of NONE", x.chamberOf(-61, 0), Edges.BAD);
        EDGES.due("promise 24: BAD ahead of -14", x.sheet(4, 0, -1), Edges.BAD);
        EDGES.due("promise 24: BAD ahead of -14", x.sheet(0, 3, -1), Edges.BAD);
        EDGES.due("promise 25: BAD ahead of -12", x.put(4, 99, 0), Edges.BAD);
        EDGES.due("promise 25: -11 ahead of -12", x.put(3, 99, 0), -11);
        EDGES.due("promise 26: BAD ahead of -11", x.item(3, 3, 0), Edges.BAD);
        EDGES.due("promise 26: BAD ahead of -13, -12", x.item(0, -1, 99), Edges.BAD);
        EDGES.due("promise 26: -11 ahead of -12", x.item(3, 0, 99), -11);
        EDGES.due("promise 26: -13 ahead of -12", x.item(0, 1, 99), -13);
        EDGES.due("promise 27: BAD ahead of -11", x.lay(3, 0), Edges.BAD);
        EDGES.due("promise 27: BAD ahead of -13", x.lay(2, 11), Edges.BAD);
        EDGES.due("promise 27: BAD ahead of OVER", many().lay(0, 0), Edges.BAD);
        EDGES.due("promise 28: BAD ahead of -11", x.check(3, 0), Edges.BAD);
        EDGES.due("promise 28: BAD ahead of -13", x.check(2, 11), Edges.BAD);
        EDGES.due("promise 29: BAD ahead of -11", x.more(3, 1, 2), Edges.BAD);
        EDGES.due("promise 29: BAD ahead of -11", x.more(3, 0, 1), Edges.BAD);
        EDGES.due("promise 29: BAD ahead of -13", x.more(2, 1, -1), Edges.BAD);
        EDGES.due("promise 29: BAD ahead of -13", x.more(2, 11, 0), Edges.BAD);
        EDGES.due("promise 29: BAD ahead of NONE", x.more(0, 1, 2), Edges.BAD);
    }

    private static void numbersOfRefusals() {
        EDGES.terms("BAD (-1) there is no such thing, or a number is not as told; FULL (-2); NONE (-3); and what the host "
            + "refuses: -11 nothing where something is asked, -12 a place outside, -13 a row of another sort, -14 a size "
            + "below 0; OVER (-16): a number is too great.");
        EDGES.due("BAD", VectorWays.BAD, -1);
        EDGES.due("FULL", VectorWays.FULL, -2);
        EDGES.due("NONE", VectorWays.NONE, -3);
        EDGES.due("OVER", VectorWays.OVER, -16);
        VectorWays x = busy();
        EDGES.due("there is no such part", x.partOf(3, 0), -1);
        EDGES.due("a number is not as told", x.weigh(0, 0), -1);
        EDGES.due("no part more", full().part(1, 1), -2);
        EDGES.due("nothing to drop", empty().drop(), -3);
        EDGES.due("a sheet is missing", x.put(3, 0, 0), -11);
        EDGES.due("a place outside", x.put(0, 3, 0), -12);
        EDGES.due("a row of another sort", x.item(0, 2, 0), -13);
        EDGES.due("a size below 0", x.sheet(0, 0, -1), -14);
        EDGES.due("too great for a byte", many().lay(0, 1), -16);
        EDGES.due("too great for a long", many().fold(0, 0, 30), -16);
    }

    /** What looks like a refusal, but is a number that was asked for. */
    private static void numbersBelowNought() {
        EDGES.terms("Answers below 0, where not told otherwise, are refusals");
        for (int number = -20; number < 0; number++) {
            VectorWays x = Due.with(1, 0, 0, 1);
            x.sheet(0, 0, 1);
            x.sheet(1, 1, 1);
            x.sheet(2, 2, 1);
            for (int sort = 0; sort <= 2; sort++) {
                EDGES.due("promise 25: put(" + sort + ", 0, " + number + ")", x.put(sort, 0, number), 1);
                EDGES.due("promise 26: item(" + sort + ", " + sort + ", 0)", x.item(sort, sort, 0), number);
            }
            x.seed(number);
            EDGES.due("promise 30: seed(1)", x.seed(1), number);
            EDGES.due("promise 30: z became 1", x.seed(1), 1);
            x.part(1, 1);
            EDGES.due("promise 22: formula(0, 5, " + (number - 1) + ")", x.formula(0, 5, number - 1), number);
        }
    }

    private static void longsAnswerNo() {
        EDGES.terms("Where a long is answered, NO (Long.MIN_VALUE) stands for BAD");
        EDGES.due("NO", VectorWays.NO, Long.MIN_VALUE);
        VectorWays x = busy();
        EDGES.due("promise 11: ways(-1, 0)", x.ways(-1, 0), Long.MIN_VALUE);
        EDGES.due("promise 12: free(-1, 0)", x.free(-1, 0), Long.MIN_VALUE);
        EDGES.due("promise 13: strict(-1, 0)", x.strict(-1, 0), Long.MIN_VALUE);
        EDGES.due("promise 15: fold(-1, 0, 0)", x.fold(-1, 0, 0), Long.MIN_VALUE);
        EDGES.due("promise 21: difference(-1, 0, 0, 0, 0)", x.difference(-1, 0, 0, 0, 0), Long.MIN_VALUE);
        EDGES.due("promise 22: formula(-1, 0, 0)", x.formula(-1, 0, 0), Long.MIN_VALUE);
        EDGES.due("promise 15: NONE stays NONE", x.fold(1, 1, 0), -3);

        EDGES.terms("The constants: `NO = Long.MIN_VALUE`: There is no such number.");
        EDGES.due("NO", VectorWays.NO, -9223372036854775808L);
    }
}
