import java.util.ArrayList;
import java.util.List;

/** Answers that are due at the document's bounds, each told with the promise and the words that ask for it. */
final class Edges {
    static final int MIN = Integer.MIN_VALUE, MAX = Integer.MAX_VALUE;
    static final int BAD = VectorWays.BAD, FULL = VectorWays.FULL, NONE = VectorWays.NONE, OVER = VectorWays.OVER;
    static final long NO = VectorWays.NO;
    static final int MISSING = -11, OUTSIDE = -12, OTHER_SORT = -13, BELOW_NOUGHT = -14;

    private final Due due = new Due();
    private final List<String> sources = new ArrayList<>();
    private int asked = 0;

    /** What follows is due by these words of a promise; DocumentTest looks them up there. */
    void promise(int number, String words) {
        begin("promise " + number + " (" + words + ")");
    }

    /** What follows is due by these words of the document's terms. */
    void terms(String words) {
        begin("terms (" + words + ")");
    }

    private void begin(String source) {
        endSource();
        sources.add(source);
    }

    private String source() {
        return sources.isEmpty() ? "" : sources.get(sources.size() - 1);
    }

    /** Words that no answer is asked for would only seem to be tested. */
    private void endSource() {
        if (!sources.isEmpty()) {
            due.due(source() + ": some answer is asked for", asked > 0 ? 1 : 0, 1);
        }
        asked = 0;
    }

    void due(String call, long got, long want) {
        asked++;
        due.due(source() + ": " + call, got, want);
    }

    void end() {
        endSource();
        due.end();
    }

    /** Numbers just outside least and greatest, and as far outside as an int goes. */
    static int[] outside(int least, int greatest) {
        return new int[] {least - 1, greatest + 1, least - 2, greatest + 2, MIN, MAX};
    }

    /** An object with parts and a text as the rule of part 0. */
    static VectorWays ruled(String text, int... steps) {
        VectorWays x = Due.with(steps);
        Due.feed(x, text);
        x.rule(0);
        return x;
    }

    static VectorWays withBlanks(int blanks) {
        VectorWays x = Due.with(1, 0);
        Due.feed(x, " ".repeat(blanks));
        return x;
    }
}
