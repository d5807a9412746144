import java.io.IOException;
import java.lang.reflect.Method;
import java.nio.file.DirectoryStream;
import java.nio.file.Files;
import java.nio.file.Path;
import java.util.ArrayList;
import java.util.List;
import java.util.Set;
import java.util.TreeSet;
import java.util.regex.Matcher;
import java.util.regex.Pattern;

/** The example of README.md answers what it says there, and the files and tests that it names are there. */
public final class ReadmeTest {
    private static final Path README = Path.of("README.md");
    private static final Path TESTS = Path.of("src/test/java");
    private static final Path SHARED = Path.of("../shared/tests");
    private static final Pattern CALL = Pattern.compile("x\\.(\\w+)\\(([^)]*)\\);\\s*// (-?\\w+)(:.*)?");
    private static final Due DUE = new Due();

    private static VectorWays x = null;

    public static void main(String[] args) throws ReflectiveOperationException, IOException {
        String readme = Files.readString(README);
        example(blocks(readme, "java"));
        commands(blocks(readme, "sh"));
        tests(readme);
        DUE.end();
    }

    private static void holds(String what, boolean isSo) {
        DUE.due("README.md: " + what, isSo ? 1 : 0, 1);
    }

    private static List<String> blocks(String readme, String language) {
        List<String> lines = new ArrayList<>();
        Matcher blocks = Pattern.compile("(?s)```" + language + "\n(.*?)```").matcher(readme);
        while (blocks.find()) {
            lines.addAll(blocks.group(1).lines().map(String::strip).filter(line -> !line.isEmpty()).toList());
        }
        holds("it has a block of " + language, !lines.isEmpty());
        return lines;
    }

    private static void example(List<String> lines) throws ReflectiveOperationException {
        int calls = 0;
        for (String line : lines) {
            Matcher call = CALL.matcher(line);
            if (line.equals("VectorWays x = new VectorWays();")) {
                x = new VectorWays();
            } else if (call.matches()) {
                calls++;
                DUE.due("README.md: " + line, answer(call.group(1), call.group(2)), number(call.group(3)));
            } else {
                holds("a call and what it answers, or a comment: " + line, line.startsWith("// "));
            }
        }
        holds("calls are told", calls > 0);
    }

    private static long answer(String name, String arguments) throws ReflectiveOperationException {
        String[] told = arguments.isEmpty() ? new String[0] : arguments.split(", ");
        for (Method method : VectorWays.class.getDeclaredMethods()) {
            Class<?>[] types = method.getParameterTypes();
            if (method.getName().equals(name) && types.length == told.length) {
                Object[] values = new Object[told.length];
                for (int i = 0; i < told.length; i++) {
                    long value = Long.decode(told[i].replace("L", ""));
                    values[i] = types[i] == int.class ? (Object) Math.toIntExact(value) : (Object) value;
                }
                return ((Number) method.invoke(x, values)).longValue();
            }
        }
        throw new NoSuchMethodException(name + "(" + arguments + ")");
    }

    /** A number, or a constant of the face. */
    private static long number(String told) throws ReflectiveOperationException {
        return told.matches("-?\\d+") ? Long.parseLong(told)
            : ((Number) VectorWays.class.getField(told).get(null)).longValue();
    }

    /** What the commands name is there, and the tests that they run. */
    private static void commands(List<String> lines) throws IOException {
        Set<String> folders = new TreeSet<>();
        for (String line : lines) {
            for (String word : line.split("\\s+")) {
                if (word.contains("/")) {
                    holds("there is " + word, isThere(Path.of(word)));
                }
            }
            Matcher run = Pattern.compile("java -cp out (\\w+).*").matcher(line);
            if (run.matches()) {
                String file = run.group(1) + ".java";
                folders.add(Files.exists(TESTS.resolve(file)) ? "project" : Files.exists(SHARED.resolve(file)) ? "shared" : file);
            }
        }
        holds("all tests are run", lines.contains(".ci/run"));
        holds("one of the project's and one of the shared tests is run alone: " + folders,
            folders.equals(Set.of("project", "shared")));
    }

    private static boolean isThere(Path path) throws IOException {
        Path folder = path.getParent();
        if (folder == null || !Files.isDirectory(folder)) {
            return false;
        }
        try (DirectoryStream<Path> files = Files.newDirectoryStream(folder, path.getFileName().toString())) {
            return files.iterator().hasNext();
        }
    }

    /** The table names every test of the project, and no other. */
    private static void tests(String readme) throws IOException {
        Set<String> named = new TreeSet<>();
        readme.lines().filter(line -> line.startsWith("| `")).forEach(line -> {
            Matcher names = Pattern.compile("`(\\w+Test)`").matcher(line);
            while (names.find()) {
                named.add(names.group(1));
            }
        });
        Set<String> there = new TreeSet<>();
        try (DirectoryStream<Path> files = Files.newDirectoryStream(TESTS, "*Test.java")) {
            for (Path file : files) {
                there.add(file.getFileName().toString().replace(".java", ""));
            }
        }
        holds("the tests " + named + " are those that are there: " + there, named.equals(there));
    }
}
