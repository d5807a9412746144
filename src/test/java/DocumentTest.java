import java.io.IOException;
import java.nio.file.DirectoryStream;
import java.nio.file.Files;
import java.nio.file.Path;
import java.util.ArrayList;
import java.util.List;
import java.util.regex.Matcher;
import java.util.regex.Pattern;

/**
 * The words by which the tests say that answers are due stand in the document, where they say so,
 * and no words of a promise or of the terms are without a test.
 */
public final class DocumentTest {
    private static final Path DOCUMENT = Path.of("../shared/DOC.md");
    private static final Path TESTS = Path.of("src/test/java");
    private static final int PROMISES = 34;
    private static final Due DUE = new Due();

    /** A part of the document, and which of its letters some test says. */
    private static final class Section {
        private final String name;
        private final String words;
        private final boolean[] isSaid;

        Section(String name, String words) {
            this.name = name;
            this.words = words.replaceAll("\\s+", " ").trim();
            isSaid = new boolean[this.words.length()];
        }

        void say(String quoted) {
            int at = words.indexOf(quoted);
            DUE.due(name + " has the words: " + quoted, at < 0 ? 0 : 1, 1);
            while (at >= 0) {
                for (int i = at; i < at + quoted.length(); i++) {
                    isSaid[i] = true;
                }
                at = words.indexOf(quoted, at + 1);
            }
        }

        void end() {
            StringBuilder unsaid = new StringBuilder();
            for (int i = 0; i < isSaid.length; i++) {
                unsaid.append(isSaid[i] ? ' ' : words.charAt(i));
            }
            String left = unsaid.toString().replaceAll("[^a-zA-Z0-9]+", " ").trim();
            DUE.due(name + ": words that no test says: " + left, left.isEmpty() ? 1 : 0, 1);
        }
    }

    public static void main(String[] args) throws IOException {
        String document = Files.readString(DOCUMENT).replace("```text", "").replace("```", "");
        Section terms = new Section("terms", termsOf(document));
        Section[] promises = new Section[PROMISES + 1];
        for (int number = 1; number <= PROMISES; number++) {
            promises[number] = new Section("promise " + number, promiseOf(document, number));
        }
        String tests = tests();
        for (String quoted : quotes(tests, "terms\\(")) {
            terms.say(quoted);
        }
        for (int number = 1; number <= PROMISES; number++) {
            for (String quoted : quotes(tests, "promise\\(" + number + ", ")) {
                promises[number].say(quoted);
            }
            promises[number].end();
        }
        terms.end();
        DUE.end();
    }

    private static String between(String text, String begin, String end) {
        int from = text.indexOf(begin);
        int to = text.indexOf(end, from + begin.length());
        DUE.due("the document has \"" + begin + "\" and \"" + end + "\"", from >= 0 && to >= 0 ? 1 : 0, 1);
        return from >= 0 && to >= 0 ? text.substring(from + begin.length(), to) : "";
    }

    /** The terms without their headings, and the constants. */
    private static String termsOf(String document) {
        return between(document, "## Terms", "Ahead of the calls").replaceAll("======== [1-3]", "");
    }

    /** What stands behind the call that a promise is of. */
    private static String promiseOf(String document, int number) {
        return between(document, "## Promise " + number + ":", number < PROMISES ? "## Promise" : "## Not promised")
            .replaceFirst("(?s)^[^`]*`[^`]*`:", "");
    }

    private static String tests() throws IOException {
        StringBuilder all = new StringBuilder();
        try (DirectoryStream<Path> files = Files.newDirectoryStream(TESTS, "*EdgesTest.java")) {
            for (Path file : files) {
                all.append(Files.readString(file));
            }
        }
        all.append(Files.readString(TESTS.resolve("RefusalsTest.java")));
        return all.toString().replaceAll("\"\\s*\\+\\s*\"", "");
    }

    private static List<String> quotes(String tests, String call) {
        List<String> all = new ArrayList<>();
        Matcher said = Pattern.compile("EDGES\\." + call + "\"((?:[^\"\\\\]|\\\\.)*)\"\\);").matcher(tests);
        while (said.find()) {
            all.add(said.group(1).replace("\\\"", "\""));
        }
        return all;
    }
}
