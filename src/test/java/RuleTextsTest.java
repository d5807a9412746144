/** Promise 8: every text of a few words, numbers and signs is the rule, or has the fault, that PlainWays reads in it. */
public final class RuleTextsTest {
    private static final String[] TOKENS = {"any", "most", "least", "by", "is", "not", "and", "or", "(", ")", "0", "7",
        "100", "x", "?"};
    private static final int CALLS = 400;
    private static final Due DUE = new Due();

    private static VectorWays x = new VectorWays();
    private static PlainWays plain = new PlainWays();
    private static int calls = CALLS;

    public static void main(String[] args) {
        String[] joints = {" ", "", "  "};
        for (String joint : joints) {
            texts("", joint, joint.isEmpty() ? 3 : joint.length() > 1 ? 2 : 4);
        }
        String[] begun = {"is 1 and ", "is 1 or ", "not ", "((((any) and ", "(is 7 or ", "most 7 and by 7 or least 7 "};
        for (String text : begun) {
            texts(text, " ", 3);
        }
        DUE.end();
    }

    /** The text, and all that come of it by some tokens more. */
    private static void texts(String text, String joint, int more) {
        same(text);
        for (int i = 0; i < TOKENS.length && more > 0; i++) {
            texts(text.isEmpty() ? TOKENS[i] : text + joint + TOKENS[i], joint, more - 1);
        }
    }

    private static void same(String text) {
        if (calls > CALLS - 10) {
            x = new VectorWays();
            plain = new PlainWays();
            x.part(1, 0);
            plain.part(1, 0);
            calls = 1;
        }
        for (int start = 0; start < text.length(); start += 8) {
            String piece = text.substring(start, Math.min(text.length(), start + 8));
            x.feed(Due.eight(piece), piece.length());
            plain.feed(Due.eight(piece), piece.length());
            calls++;
        }
        DUE.due("promise 8: rule \"" + text + "\"", x.rule(0), plain.rule(0));
        DUE.due("promise 8: what it lets, \"" + text + "\"", x.lets(0, 7), plain.lets(0, 7));
        calls += 2;
    }
}
