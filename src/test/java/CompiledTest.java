import java.io.IOException;
import java.io.PrintWriter;
import java.io.StringWriter;
import java.net.URISyntaxException;
import java.nio.file.DirectoryStream;
import java.nio.file.Files;
import java.nio.file.Path;
import java.util.ArrayList;
import java.util.HashMap;
import java.util.HashSet;
import java.util.List;
import java.util.Map;
import java.util.Set;
import java.util.TreeMap;
import java.util.regex.Matcher;
import java.util.regex.Pattern;
import java.util.spi.ToolProvider;

/** The rules of ../shared/LANGUAGE.md that the compiled class shows: what is called, how deep, what is made where. */
public final class CompiledTest {
    private static final int DEEPEST = 8;
    private static final Pattern CLASS = Pattern.compile("[\\w ]*\\bclass ([\\w$]+) .*\\{");
    private static final Pattern METHOD = Pattern.compile("  [\\w$\\[\\]. ]*?([\\w$]+)\\(.*\\);");
    private static final Pattern DESCRIPTOR = Pattern.compile("    descriptor: (\\(.*)");
    private static final Pattern STEP = Pattern.compile(" +\\d+: (\\w+)(?: .*)?");
    private static final Pattern CALL = Pattern.compile(".*// (?:Interface)?Method (?:([\\w$/]+|\"\\[.*?\")\\.)?\"?([\\w<>$]+)\"?:(.*)");
    /** Rule 4, as far as it lists functions of classes that aren't the program's own. */
    private static final Map<String, String> LIBRARY = Map.of(
        "java/lang/Object", "<init>",
        "java/lang/String", "<init>|length|charAt|isEmpty|equals|indexOf|substring|toCharArray",
        "java/lang/StringBuilder", "<init>|append|charAt|setCharAt|setLength|deleteCharAt|reverse|length|toString",
        "java/util/ArrayList", "<init>|add|get|set|remove|size|isEmpty|clear",
        "java/util/List", "of|add|get|set|remove|size|isEmpty|clear",
        "java/lang/Integer", "compare|max|min|bitCount",
        "java/lang/Long", "compare|max|min|bitCount",
        "java/lang/Math", "max|min|abs|floorDiv|floorMod",
        "java/lang/System", "arraycopy",
        "java/util/Arrays", "copyOf|copyOfRange|fill");

    private static final Due DUE = new Due();
    /** The calls of each method of the class, by its class, name and types. */
    private static final Map<String, List<String>> CALLS = new TreeMap<>();
    private static final Map<String, Integer> DEPTHS = new HashMap<>();

    public static void main(String[] args) throws IOException, URISyntaxException {
        read(disassembled());
        long looked = CALLS.keySet().stream().filter(method -> !method.contains("<clinit>")).count();
        DUE.due("all methods are looked at", looked, declared());
        for (String method : CALLS.keySet()) {
            int depth = depth(method, new HashSet<>());
            holds("rule 11: calls go at most eight deep, here " + depth + ": " + method, depth <= DEEPEST);
        }
        DUE.end();
    }

    private static void holds(String rule, boolean isKept) {
        DUE.due(rule, isKept ? 1 : 0, 1);
    }

    private static String disassembled() throws IOException, URISyntaxException {
        Path folder = Path.of(VectorWays.class.getProtectionDomain().getCodeSource().getLocation().toURI());
        List<String> asked = new ArrayList<>(List.of("-c", "-p", "-s"));
        for (String names : List.of("VectorWays.class", "VectorWays$*.class")) {
            try (DirectoryStream<Path> files = Files.newDirectoryStream(folder, names)) {
                files.forEach(file -> asked.add(file.toString()));
            }
        }
        StringWriter text = new StringWriter();
        PrintWriter out = new PrintWriter(text);
        DUE.due("javap", ToolProvider.findFirst("javap").orElseThrow().run(out, out, asked.toArray(new String[0])), 0);
        return text.toString();
    }

    private static int declared() {
        List<Class<?>> all = new ArrayList<>(List.of(VectorWays.class.getDeclaredClasses()));
        all.add(VectorWays.class);
        int methods = 0;
        for (Class<?> type : all) {
            methods += type.getDeclaredMethods().length + type.getDeclaredConstructors().length;
        }
        return methods;
    }

    private static void read(String text) {
        String type = "";
        String name = "";
        String method = "";
        for (String line : text.split("\n")) {
            Matcher head = CLASS.matcher(line);
            Matcher member = METHOD.matcher(line);
            Matcher types = DESCRIPTOR.matcher(line);
            Matcher step = STEP.matcher(line);
            if (head.matches()) {
                type = head.group(1);
            } else if (line.equals("  static {};")) {
                name = "<clinit>";
            } else if (member.matches()) {
                name = member.group(1).equals(type) ? "<init>" : member.group(1);
            } else if (types.matches()) {
                method = type + "." + name + ":" + types.group(1);
                CALLS.put(method, new ArrayList<>());
            } else if (step.matches()) {
                look(type, name, method, step.group(1), line);
            } else {
                holds("rule 6: nothing is caught: " + method, !line.contains("Exception table"));
            }
        }
    }

    /** One step of a method's code. */
    private static void look(String type, String name, String method, String step, String line) {
        String here = method + ": " + line.strip();
        holds("rules 2, 6: " + here,
            !Set.of("athrow", "monitorenter", "monitorexit", "invokedynamic", "checkcast").contains(step));
        if (Set.of("new", "newarray", "anewarray", "multianewarray").contains(step)) {
            holds("rule 12: no call makes anything: " + here, name.equals("<init>") || name.equals("<clinit>"));
        }
        Matcher call = CALL.matcher(line);
        if (!step.startsWith("invoke") || !call.matches()) {
            holds("every call is looked at: " + here, !step.startsWith("invoke"));
            return;
        }
        String owner = call.group(1) == null ? type : call.group(1);
        CALLS.get(method).add(owner + "." + call.group(2) + ":" + call.group(3));
        if (!owner.startsWith("VectorWays")) {
            holds("rule 4: " + here, call.group(2).matches(LIBRARY.getOrDefault(owner, "")));
        }
    }

    /** How many calls stand open at once, the method's own and the library's among them. */
    private static int depth(String method, Set<String> open) {
        if (DEPTHS.containsKey(method)) {
            return DEPTHS.get(method);
        }
        open.add(method);
        int deepest = 0;
        for (String call : CALLS.getOrDefault(method, List.of())) {
            holds("rule 8: no call of one that stands open: " + method + " calls " + call, !open.contains(call));
            if (!open.contains(call)) {
                deepest = Math.max(deepest, depth(call, open));
            }
        }
        open.remove(method);
        DEPTHS.put(method, deepest + 1);
        return deepest + 1;
    }
}
