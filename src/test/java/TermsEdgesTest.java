/** The bounds that the document's terms name. */
public final class TermsEdgesTest {
    private static final Edges EDGES = new Edges();

    public static void main(String[] args) {
        parts();
        waysInOrder();
        worthAndCopies();
        tape();
        ruleTests();
        ruleJoints();
        ruleNames();
        ruleNumbers();
        ruleBlanks();
        ruleOpened();
        ruleFaults();
        arcs();
        changes();
        latestChanges();
        rays();
        chambers();
        periods();
        homes();
        differences();
        formulas();
        sheets();
        tables();
        draws();
        partsByLot();
        EDGES.end();
    }

    /** All parts that there can be. */
    private static int[][] steps() {
        int[][] all = new int[24][];
        for (int ab = 1; ab < 25; ab++) {
            all[ab - 1] = new int[] {ab / 5, ab % 5};
        }
        return all;
    }

    private static String told(int[] one, int[] other) {
        return "(" + one[0] + ", " + one[1] + "), (" + other[0] + ", " + other[1] + "): ";
    }

    private static int commonDivisor(int a, int b) {
        return b == 0 ? a : commonDivisor(b, a % b);
    }

    // 1 parts, rules and the tape

    private static void parts() {
        EDGES.terms("PARTS, 6 at most, numbered as they come: ACROSS a, UP b (0 to 4 each, not both 0)");
        VectorWays x = new VectorWays();
        for (int a = -1; a <= 5; a++) {
            for (int b = -1; b <= 5; b++) {
                boolean isOne = a >= 0 && a <= 4 && b >= 0 && b <= 4 && a + b > 0;
                EDGES.due("part(" + a + ", " + b + ")", x.part(a, b), isOne ? 0 : Edges.BAD);
                x.drop();
            }
        }
        for (int i = 0; i <= 7; i++) {
            EDGES.due("part " + i, x.part(2, 1), i < 6 ? i : Edges.FULL);
        }

        EDGES.terms("a WEIGHT (1 to 99; 1 at first), a RULE, which lets some numbers (any, at first)");
        for (int p = 0; p < 6; p++) {
            EDGES.due("weight at first", x.partOf(p, 2), 1);
            EDGES.due("lets at first", x.partOf(p, 4), 61);
            EDGES.due("lets 60 at first", x.lets(p, 60), 1);
            EDGES.due("weigh(" + p + ", 0)", x.weigh(p, 0), Edges.BAD);
            EDGES.due("weigh(" + p + ", 100)", x.weigh(p, 100), Edges.BAD);
            EDGES.due("weigh(" + p + ", 99)", x.weigh(p, 99), 1);
        }
        x.drop();
        x.part(2, 1);
        EDGES.due("a part that comes anew weighs 1", x.partOf(5, 2), 1);
    }

    private static void waysInOrder() {
        EDGES.terms("POINTS (x, y). A WAY to make a POINT: of each PART a number k (0 or more) that its RULE lets, so that all "
            + "k a together are x, all k b together are y. FREE WAYS: whatever RULES let.");
        VectorWays x = Edges.ruled("not is 0", 1, 0, 2, 0);
        EDGES.due("none of a part is a number, too: ways(1, 0)", x.ways(1, 0), 1);
        EDGES.due("that a rule doesn't let: ways(2, 0)", x.ways(2, 0), 1);
        EDGES.due("ways(0, 0)", x.ways(0, 0), 0);
        EDGES.due("free(2, 0)", x.free(2, 0), 2);
        EDGES.due("free(0, 0)", x.free(0, 0), 1);
        EDGES.due("a right and b wrong: free(2, 1)", x.free(2, 1), 0);
        EDGES.due("x is across, y is up: free(4, 2)", Due.with(2, 1).free(4, 2), 1);
        EDGES.due("not the other way round: free(2, 4)", Due.with(2, 1).free(2, 4), 0);
        VectorWays same = Due.with(1, 1, 1, 1);
        EDGES.due("parts that go alike are two: ways(60, 60)", same.ways(60, 60), 61);

        EDGES.terms("WAYS stand in order by the number of PART 0, then of PART 1, .., the lesser first");
        for (int i = 0; i <= 60; i++) {
            EDGES.due("way(60, 60, " + i + ", 0)", same.way(60, 60, i, 0), i);
            EDGES.due("way(60, 60, " + i + ", 1)", same.way(60, 60, i, 1), 60 - i);
        }
        int[][] due = {{0, 0, 2}, {0, 1, 1}, {0, 2, 0}, {1, 0, 1}, {1, 1, 0}, {2, 0, 0}};
        VectorWays three = Due.with(1, 1, 1, 1, 1, 1);
        for (int i = 0; i < 6; i++) {
            for (int p = 0; p < 3; p++) {
                EDGES.due("way(2, 2, " + i + ", " + p + ")", three.way(2, 2, i, p), due[i][p]);
            }
        }
    }

    private static void worthAndCopies() {
        EDGES.terms("WORTH of a WAY: WEIGHT of each PART as often as it is taken, multiplied (1, if none is)");
        VectorWays x = Due.with(1, 0, 0, 1);
        x.weigh(0, 99);
        x.weigh(1, 98);
        EDGES.due("none is taken", x.fold(0, 0, 0), 1);
        EDGES.due("none is taken", x.fold(3, 0, 0), 1);
        EDGES.due("one is taken", x.fold(0, 1, 0), 99);
        EDGES.due("two and one", x.fold(3, 2, 1), 99 * 99 * 98);

        EDGES.terms("COPIES: how many PARTS are taken, together");
        EDGES.due("none is taken", x.fold(1, 0, 0), 0);
        EDGES.due("none is taken", x.fold(2, 0, 0), 0);
        EDGES.due("two and one", x.fold(1, 2, 1), 3);
        x.part(1, 1);
        EDGES.due("the greatest: two and one", x.fold(1, 2, 1), 3);
        EDGES.due("the fewest: one and one", x.fold(2, 2, 1), 2);
    }

    private static void tape() {
        EDGES.terms("THE TAPE takes bytes, 100 at most; rule() uses it up");
        VectorWays x = Edges.withBlanks(96);
        EDGES.due("4 to 96", x.feed(Due.eight("any "), 4), 100);
        EDGES.due("1 to 100", x.feed(32, 1), Edges.FULL);
        EDGES.due("100 bytes are a rule", x.rule(0), 61);
        EDGES.due("used up", x.many(4), 0);
        EDGES.due("100 bytes once more", x.feed(Due.eight("an"), 2), 2);
        EDGES.due("a fault", x.rule(0), -100);
        EDGES.due("used up by a fault, too", x.many(4), 0);
        EDGES.due("nothing stays of it", x.feed(Due.eight("y"), 1), 1);
        EDGES.due("no such part", x.rule(1), Edges.BAD);
        EDGES.due("not used up then", x.many(4), 1);
        EDGES.due("bytes of every sort", x.feed(0x0080ff7f00ff8000L, 8), 9);
    }

    private static void ruleTests() {
        EDGES.terms("lets a number k: any: always. most: if k is N or less. least: if it is N or more. "
            + "by: if it is a multiple of N (N is 1 or more; 0 is a multiple). is: if it is N.");
        EDGES.due("any", Due.rule("any"), 61);
        for (int n = 0; n <= 99; n++) {
            EDGES.due("most " + n, Due.rule("most " + n), Math.min(61, n + 1));
            EDGES.due("least " + n, Due.rule("least " + n), Math.max(0, 61 - n));
            EDGES.due("by " + n, Due.rule("by " + n), n < 1 ? -103 : 60 / n + 1);
            EDGES.due("is " + n, Due.rule("is " + n), n > 60 ? 0 : 1);
        }
        VectorWays x = Due.with(1, 0, 1, 0, 1, 0, 1, 0);
        int[] bounds = {0, 1, 2, 13, 59, 60};
        for (int n : bounds) {
            String[] texts = {"most " + n, "least " + n, "by " + Math.max(1, n), "is " + n};
            for (int p = 0; p < 4; p++) {
                Due.feed(x, texts[p]);
                x.rule(p);
            }
            int[] near = {0, n - 1, n, n + 1, 2 * n, 60};
            for (int k : near) {
                if (k >= 0 && k <= 60) {
                    EDGES.due("most " + n + " lets " + k, x.lets(0, k), k <= n ? 1 : 0);
                    EDGES.due("least " + n + " lets " + k, x.lets(1, k), k >= n ? 1 : 0);
                    EDGES.due("by " + n + " lets " + k, x.lets(2, k), k % Math.max(1, n) == 0 ? 1 : 0);
                    EDGES.due("is " + n + " lets " + k, x.lets(3, k), k == n ? 1 : 0);
                }
            }
        }
    }

    private static void ruleJoints() {
        EDGES.terms("RULE: ALL { or ALL } ALL: ONE { and ONE } ONE: { not } ( any | most N | least N | by N | is N | "
            + "\"(\" RULE \")\" )");
        EDGES.due("and goes ahead of or", Due.rule("is 1 or is 2 and is 3"), 1);
        EDGES.due("and goes ahead of or", Due.rule("is 3 and is 2 or is 1"), 1);
        EDGES.due("\"(\" goes ahead of and", Due.rule("(is 1 or is 2) and is 3"), 0);
        EDGES.due("not goes ahead of and", Due.rule("not is 1 and is 1"), 0);
        EDGES.due("not goes ahead of or", Due.rule("not is 1 or is 1"), 61);
        EDGES.due("not of all within \"(\"", Due.rule("not (is 1 or is 2)"), 59);
        EDGES.due("not more than once", Due.rule("not not not is 1"), 60);
        EDGES.due("not behind and", Due.rule("any and not not not is 1"), 60);
        EDGES.due("not behind or", Due.rule("is 1 or not is 1"), 61);
        EDGES.due("one alone", Due.rule("is 1"), 1);
        EDGES.due("many joined by or", Due.rule("is 1or is 2or is 3or is 4or is 5or is 6or is 7or is 8or is 9"), 9);
        EDGES.due("many joined by and", Due.rule("any and any and any and any and any and any and is 9"), 1);
        EDGES.due("no ONE behind or", Due.rule("any or"), -106);
        EDGES.due("no ONE behind and", Due.rule("any and"), -107);
        EDGES.due("no ONE behind not", Due.rule("not"), -103);
        EDGES.due("no ONE within \"(\"", Due.rule("()"), -101);
        EDGES.due("no ONE ahead of or", Due.rule("or any"), -100);
        EDGES.due("no ONE ahead of and", Due.rule("and any"), -100);
        EDGES.due("no N", Due.rule("most"), -104);
        EDGES.due("no N", Due.rule("most any"), -105);
        EDGES.due("N behind any", Due.rule("any 1"), -104);
        EDGES.due("N alone", Due.rule("1"), -100);
        EDGES.due("two N", Due.rule("is 1 1"), -105);
        EDGES.due("two ONEs", Due.rule("any any"), -104);
        EDGES.due("not behind ONE", Due.rule("any not"), -104);
        EDGES.due("no \")\"", Due.rule("(any"), -104);
        EDGES.due("no \"(\"", Due.rule("any)"), -103);
    }

    private static void ruleNames() {
        EDGES.terms("NAMES are rows of letters a to z, NUMBERS rows of digits (1 to 2: 0 to 99), both as long as they go");
        for (int one = 0; one <= 255; one++) {
            boolean isLetter = one >= 'a' && one <= 'z';
            boolean isDigit = one >= '0' && one <= '9';
            boolean isBlank = one == ' ';
            String sign = String.valueOf((char) one);
            EDGES.due("any, byte " + one + ", and any", Due.rule("any" + sign + "and any"),
                isBlank ? 61 : isLetter ? -100 : -103);
            EDGES.due("byte " + one + ", any", Due.rule(sign + "any"), isBlank ? 61 : one == '(' ? -104 : -100);
            EDGES.due("is, byte " + one + ", 5", Due.rule("is" + sign + "5"),
                isBlank ? 1 : isDigit ? one <= '5' ? 1 : 0 : isLetter ? -100 : -102);
            EDGES.due("is 5, byte " + one, Due.rule("is 5" + sign), isBlank || isDigit ? 1 : -104);
            EDGES.due("most 5, byte " + one + ", 5", Due.rule("most 5" + sign + "5"),
                isDigit ? -105 : isBlank ? -107 : -106);
        }
        String[] names = {"any", "most 1", "least 1", "by 1", "is 1", "not any", "any and any", "any or any"};
        for (String name : names) {
            EDGES.due("\"" + name.toUpperCase() + "\"", Due.rule(name.toUpperCase()), -100);
            EDGES.due("\"x" + name + "\"", Due.rule("x" + name), -100);
            EDGES.due("\"" + name.substring(1) + "\"", Due.rule(name.substring(1)), -100);
        }
        EDGES.due("a name that is longer", Due.rule("any anda any"), -104);
        EDGES.due("a name that is shorter", Due.rule("any an any"), -104);
        EDGES.due("a name that is longer", Due.rule("any orr any"), -104);
        EDGES.due("names that go on", Due.rule("notany"), -100);
        EDGES.due("a number ends a name, a name a number", Due.rule("is1or is2and most60"), 2);
    }

    private static void ruleNumbers() {
        EDGES.terms("NUMBERS rows of digits (1 to 2: 0 to 99)");
        EDGES.due("is 0", Due.rule("is 0"), 1);
        EDGES.due("is 00", Due.rule("is 00"), 1);
        EDGES.due("is 000", Due.rule("is 000"), -103);
        EDGES.due("is 05", Due.rule("is 05"), 1);
        EDGES.due("is 005", Due.rule("is 005"), -103);
        EDGES.due("most 99", Due.rule("most 99"), 61);
        EDGES.due("most 100", Due.rule("most 100"), -105);
        EDGES.due("most 0000000099", Due.rule("most 0000000099"), -105);
        EDGES.due("most 4294967297", Due.rule("most 4294967297"), -105);
        EDGES.due("most 9 and most 100", Due.rule("most 9 and most 100"), -116);
        EDGES.due("by 01", Due.rule("by 01"), 61);
        EDGES.due("by 1", Due.rule("by 1"), 61);
        EDGES.due("by 0", Due.rule("by 0"), -103);
        EDGES.due("by 00", Due.rule("by 00"), -103);
        EDGES.due("by 000", Due.rule("by 000"), -103);
        EDGES.due("most -1", Due.rule("most -1"), -105);
        EDGES.due("most +1", Due.rule("most +1"), -105);
    }

    private static void ruleBlanks() {
        EDGES.terms("blanks (32) part them, and stand elsewhere as one likes");
        EDGES.due("none but between names", Due.rule("(is 1)or(is 2)and(not(is 2))"), 1);
        EDGES.due("ahead and behind", Due.rule("   any   "), 61);
        EDGES.due("many between", Due.rule("not    (    is    1    )"), 60);
        EDGES.due("within a name", Due.rule("a ny"), -100);
        EDGES.due("within a number", Due.rule("is 1 2"), -105);
        EDGES.due("\"any\" and \"any\" not parted", Due.rule("any andany"), -104);
        EDGES.due("tabs aren't", Due.rule("is\t1"), -102);
        EDGES.due("nor are ends of lines", Due.rule("any\n"), -103);
        EDGES.due("nor is 0", Due.rule("any\0"), -103);
        EDGES.due("nor is 160", Due.rule("any\u00a0"), -103);
        EDGES.due("98 of them", Due.rule(" ".repeat(98) + "is"), -200);
        EDGES.due("97 of them", Due.rule(" ".repeat(97) + "is1"), 1);
    }

    private static void ruleOpened() {
        EDGES.terms("At most 4 \"(\" are open within one another");
        for (int open = 0; open <= 20; open++) {
            EDGES.due(open + " within one another", Due.rule("(".repeat(open) + "is 7" + ")".repeat(open)),
                open <= 4 ? 1 : -104);
        }
        EDGES.due("four, and four again", Due.rule("((((is 7))))or((((is 8))))"), 2);
        EDGES.due("ten behind one another", Due.rule("(any)and(any)and(any)and(any)and(any)and(any)and(any)and(any)and"
            + "(any)and(any)"), 61);
        EDGES.due("the fifth behind closed ones", Due.rule("(((any)and(any and(any))))"), 61);
        EDGES.due("the fifth behind closed ones", Due.rule("(((any)and(any and((any)))))"), -119);
        EDGES.due("with not between", Due.rule("not(not(not(not(not any))))"), 0);
        EDGES.due("with not between", Due.rule("not(not(not(not(not(any)))))"), -119);
        EDGES.due("one too many closed", Due.rule("((((any)))))"), -111);
        EDGES.due("one too few closed", Due.rule("((((any)))"), -110);
    }

    private static void ruleFaults() {
        EDGES.terms("FAULT: the place (from 0) of the first byte of the first NAME, NUMBER or other byte that can't "
            + "stand there (a NUMBER of more digits, 0 behind by, the fifth \"(\", too), or the end (how many bytes "
            + "there are), if more must come.");
        EDGES.due("a name, by its first byte", Due.rule("  wrong"), -102);
        EDGES.due("a number, by its first byte", Due.rule("  12"), -102);
        EDGES.due("another byte", Due.rule("  ?"), -102);
        EDGES.due("the first of two", Due.rule("any wrong wrong"), -104);
        EDGES.due("the first of two, though the other is worse", Due.rule("is 100 ((((("), -103);
        EDGES.due("a number of more digits", Due.rule("is   123"), -105);
        EDGES.due("a number of more digits where none can be", Due.rule("any 123"), -104);
        EDGES.due("0 behind by", Due.rule("by   0"), -105);
        EDGES.due("0 behind by, ahead of another fault", Due.rule("by 0 ?"), -103);
        EDGES.due("the fifth \"(\"", Due.rule("( ( ( ( ( any"), -108);
        EDGES.due("the fifth \"(\" behind what can't have one", Due.rule("any ((((("), -104);
        EDGES.due("the end of none", Due.rule(""), -100);
        EDGES.due("the end, blanks too", Due.rule("any and   "), -110);
        EDGES.due("the end, where a number must come", Due.rule("is "), -103);
        EDGES.due("the end, where \")\" must come", Due.rule("( any "), -106);
        EDGES.due("the end, where all is there", Due.rule("any "), 61);
    }

    private static void arcs() {
        EDGES.terms("AN ARC of a net of three spots goes from one spot to a greater one (0 to 2): it is a PART that "
            + "goes 1 ACROSS, if it starts at 0, and 1 UP, if it ends at 2");
        for (int from = -1; from <= 3; from++) {
            for (int to = -1; to <= 3; to++) {
                VectorWays x = new VectorWays();
                boolean isArc = from >= 0 && from < to && to <= 2;
                EDGES.due("arc(" + from + ", " + to + ")", x.arc(from, to), isArc ? 0 : Edges.BAD);
                EDGES.due("its a", x.partOf(0, 0), !isArc ? Edges.BAD : from == 0 ? 1 : 0);
                EDGES.due("its b", x.partOf(0, 1), !isArc ? Edges.BAD : to == 2 ? 1 : 0);
                EDGES.due("its weight", x.partOf(0, 2), isArc ? 1 : Edges.BAD);
            }
        }
    }

    private static void changes() {
        EDGES.terms("CHANGES (a PART that comes or goes, a WEIGHT, a RULE) are kept to be undone");
        VectorWays x = new VectorWays();
        x.part(1, 0);
        EDGES.due("a part comes", x.many(3), 1);
        x.arc(0, 2);
        EDGES.due("an arc comes", x.many(3), 2);
        x.lot(3);
        EDGES.due("three come by lot", x.many(3), 5);
        x.drop();
        EDGES.due("one goes", x.many(3), 6);
        x.weigh(1, 40);
        EDGES.due("a weight", x.many(3), 7);
        x.weigh(1, 40);
        EDGES.due("the same weight", x.many(3), 8);
        Due.feed(x, "any");
        EDGES.due("bytes of the tape aren't", x.many(3), 8);
        x.rule(1);
        EDGES.due("a rule, the same", x.many(3), 9);
        Due.feed(x, "is 1");
        x.rule(1);
        EDGES.due("another rule", x.many(3), 10);
        x.seed(4);
        x.keep();
        x.sheet(0, 0, 1);
        x.put(0, 0, 1);
        x.check(0, 1);
        x.more(0, 1, 0);
        EDGES.due("nothing else is", x.many(3), 10);
        EDGES.due("undo the other rule", x.undo(), 9);
        EDGES.due("undone", x.partOf(1, 4), 61);
        EDGES.due("undo the same rule", x.undo(), 8);
        EDGES.due("undo the same weight", x.undo(), 7);
        EDGES.due("not undone yet", x.partOf(1, 2), 40);
        EDGES.due("undo the weight", x.undo(), 6);
        EDGES.due("undone", x.partOf(1, 2), 1);
        EDGES.due("undo the drop", x.undo(), 5);
        EDGES.due("undone", x.many(0), 5);
        EDGES.due("undo the last by lot", x.undo(), 4);
        EDGES.due("undone alone", x.many(0), 4);
        x.undo();
        x.undo();
        EDGES.due("undo the arc", x.undo(), 1);
        EDGES.due("undone", x.many(0), 1);
        EDGES.due("undo the first part", x.undo(), 0);
        EDGES.due("z isn't undone", x.seed(4), 4);
        EDGES.due("nor is what stands on a sheet", x.item(0, 0, 0), 1);
        EDGES.due("nor what is kept", x.again(), 4);
        Due.feed(x, "most 2");
        x.drop();
        x.undo();
        EDGES.due("nor what stands on the tape", x.rule(0), 3);
    }

    private static void latestChanges() {
        EDGES.terms("the latest 30 of them");
        for (int made = 28; made <= 75; made++) {
            VectorWays x = Due.with(1, 0);
            for (int w = 2; w <= made; w++) {
                x.weigh(0, w);
            }
            int left = Math.min(made, 30);
            EDGES.due(made + " changes: many(3)", x.many(3), left);
            for (int undone = 1; undone <= 5; undone++) {
                EDGES.due(made + " changes: undo()", x.undo(), left - undone);
            }
            EDGES.due(made + " changes, 5 undone: weight", x.partOf(0, 2), made - 5);
            for (int w = 1; w <= 6; w++) {
                x.weigh(0, w);
            }
            left = Math.min(left + 1, 30);
            EDGES.due(made + " changes, 5 undone, 6 more: many(3)", x.many(3), left);
            for (int undone = 1; undone <= left; undone++) {
                EDGES.due(made + " changes: undo()", x.undo(), left - undone);
            }
            EDGES.due(made + " changes: undo() no more", x.undo(), Edges.NONE);
            EDGES.due(made + " changes: parts", x.many(0), made < 30 ? 0 : 1);
            EDGES.due(made + " changes: weight", x.partOf(0, 2), made < 30 ? Edges.BAD : made - 29);
        }
    }

    // 2 rays, chambers and formulas

    private static void rays() {
        EDGES.terms("RAYS: the unlike directions of PARTS: a and b by their greatest common divisor, numbered from "
            + "those that go least UP for what they go ACROSS");
        for (int[] one : steps()) {
            int common = commonDivisor(one[0], one[1]);
            VectorWays alone = Due.with(one);
            EDGES.due("a of the ray of (" + one[0] + ", " + one[1] + ")", alone.ray(0, 0), one[0] / common);
            EDGES.due("b of the ray of (" + one[0] + ", " + one[1] + ")", alone.ray(0, 1), one[1] / common);
            for (int[] other : steps()) {
                VectorWays x = Due.with(one[0], one[1], other[0], other[1]);
                int turn = one[0] * other[1] - one[1] * other[0];
                EDGES.due(told(one, other) + "rays", x.many(1), turn == 0 ? 1 : 2);
                EDGES.due(told(one, other) + "ray of the first", x.partOf(0, 3), turn < 0 ? 1 : 0);
                EDGES.due(told(one, other) + "ray of the second", x.partOf(1, 3), turn > 0 ? 1 : 0);
                EDGES.due(told(one, other) + "parts of ray 0", x.ray(0, 2), turn == 0 ? 2 : 1);
                EDGES.due(told(one, other) + "a of the second's ray", x.ray(x.partOf(1, 3), 0),
                    other[0] / commonDivisor(other[0], other[1]));
            }
        }
    }

    private static void chambers() {
        EDGES.terms("CHAMBER i: from RAY i to RAY i and 1. For a CHAMBER with RAYS (a, b), (c, d): D is a d - b c; the "
            + "SPANS of a POINT: s is x d - y c, t is a y - b x (so D times the POINT is s times the first RAY and t "
            + "times the second one). The POINT is in the CHAMBER, if neither is below 0.");
        for (int[] one : steps()) {
            for (int[] other : steps()) {
                VectorWays x = Due.with(one[0], one[1], other[0], other[1]);
                boolean isTurned = one[0] * other[1] - one[1] * other[0] < 0;
                int[] first = isTurned ? other : one;
                int[] second = isTurned ? one : other;
                boolean isThere = first[0] * second[1] - first[1] * second[0] > 0;
                EDGES.due(told(one, other) + "chambers", x.many(2), isThere ? 1 : 0);
                for (int px = -2; px <= 4; px++) {
                    for (int py = -2; py <= 4; py++) {
                        boolean isIn = isThere && px * second[1] - py * second[0] >= 0
                            && first[0] * py - first[1] * px >= 0;
                        EDGES.due(told(one, other) + "chamberOf(" + px + ", " + py + ")", x.chamberOf(px, py),
                            isIn ? 0 : Edges.NONE);
                    }
                }
            }
        }
    }

    private static void periods() {
        EDGES.terms("PERIOD: the least common multiple of the sizes of a d - b c, of all pairs of PARTS (a, b), (c, d) of "
            + "unlike RAYS (1, if there are none). UNIT: none of these is above 1. FORMULAS are there, if there is a "
            + "CHAMBER, and PERIOD is 6 or less.");
        EDGES.due("none: period()", new VectorWays().period(), 1);
        EDGES.due("none: unit()", new VectorWays().unit(), 1);
        EDGES.due("none: many(5)", new VectorWays().many(5), 0);
        for (int[] one : steps()) {
            for (int[] other : steps()) {
                VectorWays x = Due.with(one[0], one[1], other[0], other[1]);
                int size = Math.abs(one[0] * other[1] - one[1] * other[0]);
                EDGES.due(told(one, other) + "period()", x.period(), Math.max(1, size));
                EDGES.due(told(one, other) + "unit()", x.unit(), size <= 1 ? 1 : 0);
                EDGES.due(told(one, other) + "many(5)", x.many(5), size >= 1 && size <= 6 ? 1 : 0);
                EDGES.due(told(one, other) + "formula(0, 0, 0)", x.formula(0, 0, 0),
                    size >= 1 && size <= 6 ? 1 : Edges.NO);
                x.part(1, 0);
                int all = 1;
                int[] sizes = {size, one[1], other[1]};
                for (int each : sizes) {
                    all = each == 0 ? all : all / commonDivisor(all, each) * each;
                }
                EDGES.due(told(one, other) + "(1, 0): period()", x.period(), all);
                EDGES.due(told(one, other) + "(1, 0): unit()", x.unit(), all == 1 ? 1 : 0);
                EDGES.due(told(one, other) + "(1, 0): many(5)", x.many(5), x.many(1) > 1 && all <= 6 ? 1 : 0);
            }
        }
    }

    private static void homes() {
        EDGES.terms("HOME of a POINT for a CHAMBER: the one that comes of it by taking away i times PERIOD times the "
            + "first RAY and j times PERIOD times the second one, i and j whole numbers (below 0, too), so that both "
            + "its SPANS are 0 to PERIOD times D less 1.");
        int[][] points = {{0, 0}, {60, 60}, {-60, 60}, {60, -60}, {-60, -60}, {1, -1}, {-1, 1}, {7, 5}};
        for (int[] one : steps()) {
            for (int[] other : steps()) {
                VectorWays x = Due.with(one[0], one[1], other[0], other[1]);
                if (x.many(5) == 1) {
                    for (int[] point : points) {
                        dueHome(told(one, other), x, point);
                    }
                }
            }
        }
    }

    private static void dueHome(String parts, VectorWays x, int[] point) {
        int period = x.period();
        int a = x.ray(0, 0);
        int b = x.ray(0, 1);
        int c = x.ray(1, 0);
        int d = x.ray(1, 1);
        int size = period * (a * d - b * c);
        int homeX = x.home(0, point[0], point[1], 0);
        int homeY = x.home(0, point[0], point[1], 1);
        int i = x.home(0, point[0], point[1], 2) - 1000;
        int j = x.home(0, point[0], point[1], 3) - 1000;
        int s = homeX * d - homeY * c;
        int t = a * homeY - b * homeX;
        EDGES.due(parts + "spans", s >= 0 && s < size && t >= 0 && t < size ? 1 : 0, 1);
        EDGES.due(parts + "x", homeX + period * (i * a + j * c), point[0]);
        EDGES.due(parts + "y", homeY + period * (i * b + j * d), point[1]);
    }

    private static void differences() {
        EDGES.terms("DIFFERENCES (g, h), g and h together m - 2 at most, m being how many PARTS there are: for all u from "
            + "0 to g, v from 0 to h: FREE WAYS to make HOME and u times PERIOD times the first RAY and v times PERIOD "
            + "times the second one, times how many ways there are to choose u of g, and v of h, added if g - u and "
            + "h - v together are even, else taken away.");
        int[][] sets = {{1, 0, 0, 1}, {2, 0, 0, 3}, {1, 0, 1, 1, 0, 1}, {2, 1, 1, 2, 1, 1}, {1, 0, 1, 2, 0, 1, 1, 1},
            {1, 0, 2, 0, 1, 1, 0, 1, 1, 0}, {1, 0, 1, 0, 1, 1, 0, 1, 1, 1, 0, 1}};
        for (int[] set : sets) {
            VectorWays x = Due.with(set);
            int m = set.length / 2;
            int chamber = x.many(2) - 1;
            for (int g = 0; g <= m - 2; g++) {
                for (int h = 0; g + h <= m - 2; h++) {
                    EDGES.due(m + " parts: difference(" + chamber + ", -5, 4, " + g + ", " + h + ")",
                        x.difference(chamber, -5, 4, g, h), plainDifference(x, chamber, g, h));
                }
                EDGES.due(m + " parts: one too many", x.difference(chamber, -5, 4, g, m - 1 - g), Edges.NO);
            }
        }
    }

    private static long plainDifference(VectorWays x, int chamber, int g, int h) {
        int period = x.period();
        int homeX = x.home(chamber, -5, 4, 0);
        int homeY = x.home(chamber, -5, 4, 1);
        long all = 0;
        for (int u = 0; u <= g; u++) {
            for (int v = 0; v <= h; v++) {
                long ways = x.free(homeX + period * (u * x.ray(chamber, 0) + v * x.ray(chamber + 1, 0)),
                    homeY + period * (u * x.ray(chamber, 1) + v * x.ray(chamber + 1, 1)));
                all += ways * choose(g, u) * choose(h, v) * ((g - u + h - v) % 2 == 0 ? 1 : -1);
            }
        }
        return all;
    }

    private static long choose(int n, int k) {
        long above = 1;
        long below = 1;
        for (int f = 0; f < k; f++) {
            above *= n - f;
            below *= k - f;
        }
        return above / below;
    }

    private static void formulas() {
        EDGES.terms("CHOOSE k of n, n being whole: n (n - 1) .. (n - k + 1) by k (k - 1) .. 1 (1, if k is 0; also of n "
            + "below 0). FORMULA of a CHAMBER at a POINT: all DIFFERENCES (g, h) of its HOME times CHOOSE g of i times "
            + "CHOOSE h of j, together.");
        // Of parts of (1, 0) alone and one (0, 1), the formula is CHOOSE m - 2 of x + m - 2.
        for (int m = 2; m <= 6; m++) {
            VectorWays x = Due.with(0, 1);
            for (int p = 1; p < m; p++) {
                x.part(1, 0);
            }
            for (int px = -60; px <= 60; px++) {
                EDGES.due(m + " parts: formula(0, " + px + ", 7)", x.formula(0, px, 7), choose(px + m - 2, m - 2));
            }
        }
        int[][] sets = {{1, 0, 0, 1}, {2, 0, 0, 3}, {1, 0, 1, 1, 0, 1}, {2, 1, 1, 2, 1, 1}, {1, 0, 1, 2, 0, 1, 1, 1},
            {1, 0, 2, 0, 1, 1, 0, 1, 1, 0}, {1, 0, 1, 0, 1, 1, 0, 1, 1, 1, 0, 1}};
        int[][] points = {{0, 0}, {60, 60}, {-60, -60}, {60, -60}, {-60, 60}, {-1, 1}, {1, -1}, {-1, -1}, {13, 8}};
        for (int[] set : sets) {
            VectorWays x = Due.with(set);
            for (int[] point : points) {
                int chamber = x.many(2) - 1;
                EDGES.due(set.length / 2 + " parts: formula at (" + point[0] + ", " + point[1] + ")",
                    x.formula(chamber, point[0], point[1]), together(x, chamber, point, set.length / 2));
            }
        }
    }

    private static long together(VectorWays x, int chamber, int[] point, int m) {
        int i = x.home(chamber, point[0], point[1], 2) - 1000;
        int j = x.home(chamber, point[0], point[1], 3) - 1000;
        long all = 0;
        for (int g = 0; g <= m - 2; g++) {
            for (int h = 0; g + h <= m - 2; h++) {
                all += x.difference(chamber, point[0], point[1], g, h) * choose(i, g) * choose(j, h);
            }
        }
        return all;
    }

    // 3 sheets, tables and draws

    private static void sheets() {
        EDGES.terms("SHEETS 0 to 3: rows of 0 bytes, 1 shorts, 2 longs, 60 at most, or missing (at first)");
        VectorWays x = new VectorWays();
        for (int sheet = -1; sheet <= 4; sheet++) {
            boolean isOne = sheet >= 0 && sheet <= 3;
            for (int sort = 0; sort <= 2; sort++) {
                EDGES.due("missing at first: item(" + sheet + ", " + sort + ", 0)", x.item(sheet, sort, 0),
                    isOne ? Edges.MISSING : Edges.BAD);
            }
            EDGES.due("missing at first: put(" + sheet + ", 0, 1)", x.put(sheet, 0, 1), isOne ? Edges.MISSING : Edges.BAD);
            EDGES.due("missing at first: lay(" + sheet + ", 1)", x.lay(sheet, 1), isOne ? Edges.MISSING : Edges.BAD);
        }
        int[] most = {Byte.MAX_VALUE, Short.MAX_VALUE, Edges.MAX};
        int[] least = {Byte.MIN_VALUE, Short.MIN_VALUE, Edges.MIN};
        for (int sheet = -1; sheet <= 4; sheet++) {
            boolean isOne = sheet >= 0 && sheet <= 3;
            for (int sort = 0; sort <= 2; sort++) {
                EDGES.due("sheet(" + sheet + ", " + sort + ", 61)", x.sheet(sheet, sort, 61), Edges.BAD);
                EDGES.due("sheet(" + sheet + ", " + sort + ", 60)", x.sheet(sheet, sort, 60), isOne ? 1 : Edges.BAD);
                x.put(sheet, 59, most[sort]);
                EDGES.due("the greatest there", x.item(sheet, sort, 59), isOne ? most[sort] : Edges.BAD);
                x.put(sheet, 59, most[sort] + 1L);
                EDGES.due("one more", x.item(sheet, sort, 59), isOne ? least[sort] : Edges.BAD);
            }
        }
        EDGES.due("one sheet is not another", x.sheet(1, -1, 0), 1);
        EDGES.due("the one ahead stays", x.item(0, 2, 59), Edges.MIN);
        EDGES.due("the one behind stays", x.item(2, 2, 59), Edges.MIN);
    }

    private static void tables() {
        EDGES.terms("A TABLE of width w (1 to 10): place k is for the POINT (k leaves by w, k by w cut)");
        // (x + 1) times (y + 1) (y + 2) by 2 ways: no point has the same as the one beside it.
        VectorWays x = Due.with(1, 0, 1, 0, 0, 1, 0, 1, 0, 1);
        for (int w = 0; w <= 11; w++) {
            x.sheet(1, 1, 40);
            EDGES.due("lay(1, " + w + ")", x.lay(1, w), w >= 1 && w <= 10 ? 40 : Edges.BAD);
            int[] places = {0, 1, w - 1, w, w + 1, 2 * w, 38, 39};
            for (int k : places) {
                if (w >= 1 && w <= 10 && k >= 0 && k <= 39) {
                    int px = k % w;
                    int py = k / w;
                    EDGES.due("place " + k + " of width " + w, x.item(1, 1, k), (px + 1) * ((py + 1) * (py + 2) / 2));
                }
            }
            EDGES.due("check(1, " + w + ")", x.check(1, w), w >= 1 && w <= 10 ? Edges.NONE : Edges.BAD);
            EDGES.due("more(1, " + w + ", 0)", x.more(1, w, 0), w < 1 || w > 10 ? Edges.BAD : partsBeyond(40, w));
        }
    }

    /** How many parts there can be that make no point of a table: they may come, whatever stands there. */
    private static int partsBeyond(int places, int w) {
        int all = 0;
        for (int[] step : steps()) {
            all += step[0] >= w || step[1] * w + step[0] >= places ? 1 : 0;
        }
        return all;
    }

    private static void draws() {
        EDGES.terms("DRAWS: z (an int; 1 at first) becomes z * 1103515245 + 12345; z >>> 16 is drawn");
        // Each z, what two draws of it leave by 5, and the z behind them.
        int[][] due = {{1, 3, 1, -1770082073}, {0, 0, 1, -740551042}, {-1, 2, 4, 288979989},
            {Edges.MAX, 4, 2, -1858503659}, {Edges.MIN, 3, 3, 1406932606}};
        EDGES.due("1 at first", new VectorWays().seed(1), 1);
        for (int[] row : due) {
            VectorWays x = new VectorWays();
            x.seed(row[0]);
            x.lot(1);
            EDGES.due("a of seed " + row[0], x.partOf(0, 0), row[1]);
            EDGES.due("b of seed " + row[0], x.partOf(0, 1), row[2]);
            EDGES.due("z behind seed " + row[0], x.seed(0), row[3]);
        }
        VectorWays first = new VectorWays();
        first.lot(1);
        EDGES.due("without a seed", first.seed(0), -1770082073);
    }

    private static void partsByLot() {
        EDGES.terms("A PART BY LOT: a is what a draw leaves by 5, b what another one leaves by 5; if both are 0, it is "
            + "(1, 1)");
        for (int seed = -30; seed <= 130; seed++) {
            int first = seed * 1103515245 + 12345;
            int second = first * 1103515245 + 12345;
            int a = (first >>> 16) % 5;
            int b = (second >>> 16) % 5;
            VectorWays x = new VectorWays();
            x.seed(seed);
            x.lot(1);
            EDGES.due("seed " + seed + ": a", x.partOf(0, 0), a == 0 && b == 0 ? 1 : a);
            EDGES.due("seed " + seed + ": b", x.partOf(0, 1), a == 0 && b == 0 ? 1 : b);
        }
    }
}
