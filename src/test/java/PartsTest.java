/** Promises 1 to 10 and 32: parts, their weights and rules, the tape, changes undone. */
public final class PartsTest {
    private static final int MIN = Integer.MIN_VALUE, MAX = Integer.MAX_VALUE;
    private static final Due DUE = new Due();

    public static void main(String[] args) {
        newObject();
        part();
        arc();
        drop();
        weigh();
        partOf();
        feed();
        ruleSets();
        ruleFaults();
        ruleAndTape();
        lets();
        undo();
        many();
        DUE.end();
    }

    // Promise 1
    private static void newObject() {
        VectorWays x = new VectorWays();
        for (int what = 0; what <= 5; what++) {
            DUE.due("new: many(" + what + ")", x.many(what), 0);
        }
        DUE.due("new: again()", x.again(), VectorWays.NONE);
        DUE.due("new: undo()", x.undo(), VectorWays.NONE);
        for (int sheet = 0; sheet < 4; sheet++) {
            DUE.due("new: item", x.item(sheet, 0, 0), -11);
        }
        DUE.due("new: seed", x.seed(5), 1);
        DUE.due("new: ways of nought", x.ways(0, 0), 1);
        VectorWays y = new VectorWays();
        x.part(1, 1);
        DUE.due("another object is another", y.many(0), 0);
    }

    // Promise 2
    private static void part() {
        int[][] bad = {{0, 0}, {-1, 0}, {0, -1}, {5, 0}, {0, 5}, {-1, 5}, {MIN, 1}, {1, MAX}, {MAX, MIN}};
        for (int a = 0; a <= 4; a++) {
            for (int b = 0; b <= 4; b++) {
                VectorWays x = new VectorWays();
                DUE.due("part(" + a + ", " + b + ")", x.part(a, b), a + b == 0 ? -1 : 0);
                DUE.due("its a", x.partOf(0, 0), a + b == 0 ? -1 : a);
                DUE.due("its b", x.partOf(0, 1), a + b == 0 ? -1 : b);
            }
        }
        VectorWays x = new VectorWays();
        for (int i = 0; i < 6; i++) {
            DUE.due("part " + i, x.part(1, i % 3), i);
        }
        DUE.due("a seventh part", x.part(1, 1), VectorWays.FULL);
        DUE.due("how many then", x.many(0), 6);
        DUE.due("changes then", x.many(3), 6);
        for (int[] ab : bad) {
            DUE.due("BAD goes ahead of FULL", x.part(ab[0], ab[1]), VectorWays.BAD);
            DUE.due("BAD", new VectorWays().part(ab[0], ab[1]), VectorWays.BAD);
        }
    }

    // Promise 3
    private static void arc() {
        int[][] bad = {{0, 0}, {1, 1}, {2, 2}, {1, 0}, {2, 0}, {2, 1}, {-1, 0}, {-1, 2}, {0, 3}, {2, 3}, {MIN, MAX}};
        VectorWays x = new VectorWays();
        DUE.due("arc(0, 1)", x.arc(0, 1), 0);
        DUE.due("arc(0, 2)", x.arc(0, 2), 1);
        DUE.due("arc(1, 2)", x.arc(1, 2), 2);
        int[] across = {1, 1, 0};
        int[] up = {0, 1, 1};
        for (int p = 0; p < 3; p++) {
            DUE.due("a of an arc", x.partOf(p, 0), across[p]);
            DUE.due("b of an arc", x.partOf(p, 1), up[p]);
        }
        for (int[] arc : bad) {
            DUE.due("arc(" + arc[0] + ", " + arc[1] + ")", x.arc(arc[0], arc[1]), VectorWays.BAD);
        }
        DUE.due("many(0)", x.many(0), 3);
        x.arc(0, 1);
        x.arc(0, 1);
        x.arc(0, 1);
        DUE.due("a seventh arc", x.arc(0, 2), VectorWays.FULL);
        DUE.due("BAD goes ahead", x.arc(2, 0), VectorWays.BAD);
        DUE.due("changes", x.many(3), 6);
    }

    // Promise 4
    private static void drop() {
        VectorWays x = Due.with(1, 0, 0, 1, 1, 1);
        DUE.due("drop()", x.drop(), 2);
        DUE.due("the last went", x.partOf(2, 0), VectorWays.BAD);
        DUE.due("the others stay", x.partOf(1, 1), 1);
        DUE.due("rays follow", x.many(1), 2);
        DUE.due("drop()", x.drop(), 1);
        DUE.due("drop()", x.drop(), 0);
        DUE.due("drop()", x.drop(), VectorWays.NONE);
        DUE.due("many(0)", x.many(0), 0);
        DUE.due("many(3)", x.many(3), 6);
        x.part(2, 2);
        x.weigh(0, 7);
        Due.feed(x, "is 3");
        x.rule(0);
        x.drop();
        x.part(2, 2);
        DUE.due("a part that comes anew weighs 1", x.partOf(0, 2), 1);
        DUE.due("and lets any", x.partOf(0, 4), 61);
    }

    // Promise 5
    private static void weigh() {
        VectorWays x = Due.with(1, 0, 0, 1);
        DUE.due("weigh(0, 99)", x.weigh(0, 99), 1);
        DUE.due("weigh(0, 1)", x.weigh(0, 1), 99);
        DUE.due("weigh(1, 50)", x.weigh(1, 50), 1);
        DUE.due("weigh(1, 50)", x.weigh(1, 50), 50);
        DUE.due("the same again is a change", x.many(3), 6);
        int[][] bad = {{2, 1}, {-1, 1}, {0, 0}, {0, 100}, {0, -1}, {MAX, 1}, {MIN, 1}, {0, MAX}, {0, MIN}};
        for (int[] call : bad) {
            DUE.due("weigh(" + call[0] + ", " + call[1] + ")", x.weigh(call[0], call[1]), VectorWays.BAD);
        }
        DUE.due("weight", x.partOf(0, 2), 1);
        DUE.due("weight", x.partOf(1, 2), 50);
        DUE.due("changes", x.many(3), 6);
    }

    // Promise 6
    private static void partOf() {
        VectorWays x = Due.with(2, 4, 3, 0, 0, 3, 1, 2, 4, 1, 3, 3);
        int[] rays = {3, 0, 4, 3, 1, 2};
        for (int p = 0; p < 6; p++) {
            DUE.due("ray of part " + p, x.partOf(p, 3), rays[p]);
            DUE.due("weight of part " + p, x.partOf(p, 2), 1);
            DUE.due("lets of part " + p, x.partOf(p, 4), 61);
        }
        x.weigh(4, 33);
        Due.feed(x, "by 7");
        x.rule(4);
        DUE.due("a", x.partOf(4, 0), 4);
        DUE.due("b", x.partOf(4, 1), 1);
        DUE.due("weight", x.partOf(4, 2), 33);
        DUE.due("lets", x.partOf(4, 4), 9);
        int[][] bad = {{0, -1}, {0, 5}, {6, 0}, {-1, 0}, {MAX, 0}, {MIN, 0}, {0, MAX}, {0, MIN}};
        for (int[] call : bad) {
            DUE.due("partOf(" + call[0] + ", " + call[1] + ")", x.partOf(call[0], call[1]), VectorWays.BAD);
        }
        DUE.due("no part yet", new VectorWays().partOf(0, 0), VectorWays.BAD);
    }

    // Promise 7
    private static void feed() {
        VectorWays x = Due.with(1, 0);
        int[] bad = {0, -1, 9, MAX, MIN};
        for (int n : bad) {
            DUE.due("feed(.., " + n + ")", x.feed(0x20, n), VectorWays.BAD);
        }
        for (int n = 1; n <= 8; n++) {
            DUE.due("feed(.., " + n + ")", x.feed(0x2020202020202020L, n), n * (n + 1) / 2);
        }
        for (int i = 0; i < 8; i++) {
            DUE.due("feed(.., 8)", x.feed(0x2020202020202020L, 8), 44 + 8 * i);
        }
        DUE.due("101 bytes", x.feed(0x20, 1), VectorWays.FULL);
        DUE.due("BAD goes ahead of FULL", x.feed(0x20, 9), VectorWays.BAD);
        DUE.due("many(4)", x.many(4), 100);
        DUE.due("a hundred blanks", x.rule(0), -200);
        DUE.due("used up", x.many(4), 0);
        for (int i = 0; i < 12; i++) {
            x.feed(0x2020202020202020L, 8);
        }
        DUE.due("8 more than 96", x.feed(0, 8), VectorWays.FULL);
        DUE.due("5 more than 96", x.feed(0, 5), VectorWays.FULL);
        DUE.due("4 more than 96", x.feed(Due.eight(" any"), 4), 100);
        DUE.due("a text of 100 bytes", x.rule(0), 61);
        x.feed(0x7920_6e61L, 2);
        x.feed(Due.eight("y any any"), 1);
        DUE.due("the lowest bytes, the lowest first", x.rule(0), 61);
        DUE.due("tape is no change", x.many(3), 3);
    }

    // Promise 8: the sets
    private static void ruleSets() {
        Object[][] rules = {
            {"any", 61}, {"most 0", 1}, {"most 60", 61}, {"most 99", 61}, {"most 59", 60}, {"most 7", 8},
            {"least 0", 61}, {"least 60", 1}, {"least 61", 0}, {"least 99", 0}, {"least 58", 3},
            {"by 1", 61}, {"by 2", 31}, {"by 60", 2}, {"by 61", 1}, {"by 99", 1}, {"by 07", 9},
            {"is 0", 1}, {"is 60", 1}, {"is 61", 0}, {"is 00", 1}, {"is 5", 1},
            {"not any", 0}, {"not not any", 61}, {"not not not any", 0}, {"not is 5", 60},
            {"any and is 3", 1}, {"is 3 and is 4", 0}, {"is 3 or is 4", 2}, {"is 3 or is 3", 1},
            {"is 1 or is 2 and is 3", 1}, {"is 2 and is 3 or is 1", 1}, {"(is 1 or is 2) and is 2", 1},
            {"is 2 and (is 3 or is 2)", 1}, {"is 2 and (is 3 or is 1)", 0},
            {"not is 1 and is 1", 0}, {"not is 1 or is 1", 61}, {"not (is 1 or is 2)", 59},
            {"not (is 1 and is 2)", 61}, {"not (not is 1)", 1}, {"not not (is 1)", 1},
            {"not is 1 and not is 2", 59}, {"not is 1 or not is 1", 60}, {"is 1 and not is 2", 1},
            {"((((is 9))))", 1}, {"((((is 9)or is 8)or is 7)or is 6)or is 5", 5},
            {"((((is 9))))and((((any))))", 1}, {"(any)and(any)and(any)and(any)and(any)", 61},
            {"most5and least3", 3}, {"  most   5   ", 6}, {"not(any)", 0}, {"is 9or is 8", 2},
            {"by 2 and by 3", 11}, {"by 2 or by 3", 41}, {"least 10 and most 20 and not by 5", 8},
            {"least 10 and most 20 or least 30 and most 40", 22}, {"is 1 or is 2 or is 3 or is 4", 4},
        };
        for (Object[] row : rules) {
            String text = (String) row[0];
            DUE.due("rule \"" + text + "\"", Due.rule(text), (Integer) row[1]);
        }
    }

    // Promise 8: the faults
    private static void ruleFaults() {
        Object[][] rules = {
            {"", 0}, {" ", 1}, {"most", 4}, {"most ", 5}, {"any and", 7}, {"any or ", 7}, {"not", 3}, {"(", 1},
            {"(any", 4}, {"((any)", 6}, {"( any ", 6}, {"any any", 4}, {"anyany", 0}, {"an", 0}, {"anyx", 0},
            {"Any", 0}, {"aNy", 0}, {"5", 0}, {"most any", 5}, {"most (", 5}, {"most -5", 5}, {"most 100", 5},
            {"most 005", 5}, {"most 5 5", 7}, {"most 5a", 6}, {"most 5any", 6}, {"any 5", 4}, {"any )", 4}, {")", 0},
            {"any)", 3}, {"()", 1}, {"(any))", 5}, {"by 0", 3}, {"by 00", 3}, {"by 000", 3}, {"by", 2}, {"is", 2},
            {"is is", 3}, {"is 5 is 5", 5}, {"least least 5", 6}, {"and", 0}, {"or any", 0}, {"any and or", 8},
            {"any and and any", 8}, {"any or or any", 7}, {"any not any", 4}, {"not and", 4}, {"not )", 4},
            {"(((((any)))))", 4}, {"((((any))))(", 11}, {"((((any)or(any))))((", 18}, {"any\tand any", 3},
            {"any\nor any", 3}, {"\u00ffany", 0}, {"any\u0000", 3}, {"most\u00a05", 4}, {"is_5", 2}, {"is 5.", 4},
            {"ANY", 0}, {"most 5 and by 0", 14}, {"(most 5 and by 0", 15}, {"any {", 4}, {"any`", 3}, {"any/", 3},
            {"is :", 3}, {"by 100", 3}, {"100", 0}, {"any 100", 4}, {"least 60 or", 11}, {"nota any", 0},
            {"not any or not", 14}, {"(any or)", 7}, {"(any and )", 9}, {"any (any)", 4}, {"any(", 3},
        };
        for (Object[] row : rules) {
            String text = (String) row[0];
            DUE.due("rule \"" + text + "\"", Due.rule(text), -100 - (Integer) row[1]);
        }
    }

    // Promise 8: what a rule does with the tape and the part
    private static void ruleAndTape() {
        VectorWays x = Due.with(1, 0, 0, 1);
        Due.feed(x, "is 5");
        int[] bad = {-1, 2, 6, MAX, MIN};
        for (int part : bad) {
            DUE.due("rule(" + part + ")", x.rule(part), VectorWays.BAD);
        }
        DUE.due("the tape stays", x.many(4), 4);
        DUE.due("rule(1)", x.rule(1), 1);
        DUE.due("the tape is used up", x.many(4), 0);
        DUE.due("a change", x.many(3), 3);
        DUE.due("the other part's rule", x.partOf(0, 4), 61);
        Due.feed(x, "is x");
        DUE.due("a fault", x.rule(1), -103);
        DUE.due("the tape is used up", x.many(4), 0);
        DUE.due("no change", x.many(3), 3);
        DUE.due("the rule stays", x.lets(1, 5), 1);
        DUE.due("the rule stays", x.partOf(1, 4), 1);
        DUE.due("ways follow", x.ways(0, 5), 1);
        DUE.due("ways follow", x.ways(0, 4), 0);
        Due.feed(x, "not is 5");
        DUE.due("after a fault all is new", x.rule(1), 60);
        DUE.due("ways follow", x.ways(0, 5), 0);
        Due.feed(x, "not ((");
        DUE.due("a fault within", x.rule(1), -106);
        Due.feed(x, "is 2");
        DUE.due("nothing is left of it", x.rule(1), 1);
    }

    // Promise 9
    private static void lets() {
        VectorWays x = Due.with(1, 0, 0, 1);
        Due.feed(x, "by 20 or is 7 and most 60");
        x.rule(1);
        for (int k = 0; k <= 60; k++) {
            DUE.due("lets(0, " + k + ")", x.lets(0, k), 1);
            DUE.due("lets(1, " + k + ")", x.lets(1, k), k % 20 == 0 || k == 7 ? 1 : 0);
        }
        int[][] bad = {{0, -1}, {0, 61}, {2, 0}, {-1, 0}, {0, MAX}, {0, MIN}, {MAX, 0}, {MIN, 0}, {0, 64}};
        for (int[] call : bad) {
            DUE.due("lets(" + call[0] + ", " + call[1] + ")", x.lets(call[0], call[1]), VectorWays.BAD);
        }
    }

    // Promise 10
    private static void undo() {
        VectorWays x = Due.with(1, 0, 0, 1);
        x.weigh(1, 5);
        Due.feed(x, "is 3");
        x.rule(1);
        x.drop();
        DUE.due("undo drop", x.undo(), 4);
        DUE.due("its b", x.partOf(1, 1), 1);
        DUE.due("its weight", x.partOf(1, 2), 5);
        DUE.due("its rule", x.partOf(1, 4), 1);
        DUE.due("its ways", x.ways(0, 3), 1);
        DUE.due("rays", x.many(1), 2);
        DUE.due("undo rule", x.undo(), 3);
        DUE.due("its rule", x.partOf(1, 4), 61);
        DUE.due("its ways", x.ways(0, 4), 1);
        DUE.due("its weight", x.partOf(1, 2), 5);
        DUE.due("undo weight", x.undo(), 2);
        DUE.due("its weight", x.partOf(1, 2), 1);
        DUE.due("undo part", x.undo(), 1);
        DUE.due("parts", x.many(0), 1);
        DUE.due("a new change after undone ones", x.weigh(0, 9), 1);
        DUE.due("changes", x.many(3), 2);
        DUE.due("undo", x.undo(), 1);
        DUE.due("undo", x.undo(), 0);
        DUE.due("undo", x.undo(), VectorWays.NONE);
        DUE.due("parts", x.many(0), 0);

        VectorWays y = Due.with(1, 0);
        for (int w = 2; w <= 40; w++) {
            y.weigh(0, w);
        }
        DUE.due("the latest 30", y.many(3), 30);
        for (int left = 29; left >= 0; left--) {
            DUE.due("undo", y.undo(), left);
            DUE.due("weight", y.partOf(0, 2), left + 10);
        }
        DUE.due("undo", y.undo(), VectorWays.NONE);
        DUE.due("what is not kept stays", y.partOf(0, 2), 10);
    }

    // Promise 32
    private static void many() {
        VectorWays x = Due.with(1, 0);
        DUE.due("one ray, no chamber", x.many(2), 0);
        DUE.due("no chamber, no formulas", x.many(5), 0);
        x.part(2, 0);
        DUE.due("still one ray", x.many(1), 1);
        DUE.due("no formulas", x.many(5), 0);
        x.part(0, 3);
        DUE.due("parts", x.many(0), 3);
        DUE.due("rays", x.many(1), 2);
        DUE.due("chambers", x.many(2), 1);
        DUE.due("changes", x.many(3), 3);
        DUE.due("period 6: formulas", x.many(5), 1);
        x.feed(0, 5);
        DUE.due("bytes of the tape", x.many(4), 5);
        x.part(4, 1);
        DUE.due("period 12: no formulas", x.many(5), 0);
        DUE.due("chambers all the same", x.many(2), 2);
        int[] bad = {-1, 6, MAX, MIN};
        for (int what : bad) {
            DUE.due("many(" + what + ")", x.many(what), VectorWays.BAD);
        }
    }
}
