import java.io.IOException;
import java.lang.reflect.Constructor;
import java.lang.reflect.Field;
import java.lang.reflect.Method;
import java.lang.reflect.Modifier;
import java.nio.charset.StandardCharsets;
import java.nio.file.Files;
import java.nio.file.Path;
import java.util.ArrayList;
import java.util.List;
import java.util.Set;
import java.util.TreeSet;
import java.util.regex.Matcher;
import java.util.regex.Pattern;

/** The rules of ../shared/LANGUAGE.md, as far as the source's text and the compiled class show them. */
public final class LanguageTest {
    private static final Path SOURCE = Path.of("src/main/java/VectorWays.java");
    private static final Path DOCUMENT = Path.of("../shared/DOC.md");
    private static final Due DUE = new Due();

    public static void main(String[] args) throws IOException {
        String source = Files.readString(SOURCE, StandardCharsets.US_ASCII);
        String code = withoutComments(source);
        face();
        members();
        noForbiddenWords(code);
        onlyTheLibraryTold(code);
        sizes(code);
        DUE.end();
    }

    private static void holds(String rule, boolean isKept) {
        DUE.due(rule, isKept ? 1 : 0, 1);
    }

    private static String withoutComments(String source) {
        return source.replaceAll("(?s)/\\*.*?\\*/", "").replaceAll("//[^\n]*", "");
    }

    /** Rule 1: the public face is the document's. */
    private static void face() throws IOException {
        Set<String> told = new TreeSet<>();
        String document = Files.readString(DOCUMENT);
        String face = document.substring(document.indexOf("```java"), document.indexOf("## Terms"));
        Matcher signs = Pattern.compile("public (int|long) (\\w+)\\(([^)]*)\\);").matcher(face);
        while (signs.find()) {
            told.add(signs.group(1) + " " + signs.group(2) + " " + signs.group(3).replaceAll(" \\w+(,|$)", "$1"));
        }
        Set<String> found = new TreeSet<>();
        for (Method method : VectorWays.class.getDeclaredMethods()) {
            if (!Modifier.isPrivate(method.getModifiers())) {
                List<String> types = new ArrayList<>();
                for (Class<?> type : method.getParameterTypes()) {
                    types.add(type.getName());
                }
                found.add(method.getReturnType() + " " + method.getName() + " " + String.join(", ", types));
                holds("rule 1: public and of objects: " + method, method.getModifiers() == Modifier.PUBLIC);
            }
        }
        holds("rule 1: the document tells 33 methods: " + told, told.size() == 33);
        holds("rule 1: the face's methods: " + found, told.equals(found));
        holds("rule 1: public and final", VectorWays.class.getModifiers() == (Modifier.PUBLIC | Modifier.FINAL));
        Constructor<?>[] constructors = VectorWays.class.getDeclaredConstructors();
        holds("rule 1: one public constructor", constructors.length == 1 && constructors[0].getModifiers() == Modifier.PUBLIC);
        DUE.due("BAD", VectorWays.BAD, -1);
        DUE.due("FULL", VectorWays.FULL, -2);
        DUE.due("NONE", VectorWays.NONE, -3);
        DUE.due("OVER", VectorWays.OVER, -16);
        DUE.due("NO", VectorWays.NO, Long.MIN_VALUE);
        Set<String> constants = Set.of("BAD", "FULL", "NONE", "OVER", "NO");
        for (Field field : VectorWays.class.getDeclaredFields()) {
            holds("rule 1: public only if told: " + field,
                Modifier.isPrivate(field.getModifiers()) != constants.contains(field.getName()));
        }
    }

    /** Rules 1, 2, 5, 11: members, classes inside, fields. */
    private static void members() {
        Set<String> face = new TreeSet<>();
        for (Method method : VectorWays.class.getDeclaredMethods()) {
            if (Modifier.isPublic(method.getModifiers())) {
                face.add(method.getName());
            }
        }
        Class<?>[] inside = VectorWays.class.getDeclaredClasses();
        holds("rule 11: some twelve classes", inside.length < 12);
        List<Class<?>> all = new ArrayList<>(List.of(inside));
        all.add(VectorWays.class);
        for (Class<?> type : all) {
            holds("rule 2: static inside: " + type, type == VectorWays.class || Modifier.isStatic(type.getModifiers()));
            int fields = 0;
            for (Field field : type.getDeclaredFields()) {
                boolean isStatic = Modifier.isStatic(field.getModifiers());
                fields += isStatic ? 0 : 1;
                holds("rule 5: static is final: " + field, !isStatic || Modifier.isFinal(field.getModifiers()));
            }
            holds("rule 11: some twenty fields: " + type, fields <= 20);
            for (Method method : type.getDeclaredMethods()) {
                boolean isPublic = Modifier.isPublic(method.getModifiers());
                holds("rule 1: no private one bears a public name: " + method, isPublic || !face.contains(method.getName()));
                holds("rule 11: seven parameters: " + method, method.getParameterCount() <= 7);
                holds("rule 2: not made by the compiler: " + method, !method.isSynthetic());
            }
        }
    }

    /** Rules 2, 6, 13. */
    private static void noForbiddenWords(String code) {
        String[] words = {"throw", "throws", "try", "catch", "finally", "synchronized", "assert", "package", "native",
            "transient", "volatile", "strictfp", "protected", "yield", "var", "Object", "Thread", "Random",
            "hashCode", "Byte", "Short", "Character", "Double", "Float", "Boolean"};
        for (String word : words) {
            holds("rules 2, 3, 6, 13: no " + word, !Pattern.compile("\\b" + word + "\\b").matcher(code).find());
        }
        holds("rule 2: no lambda", !code.contains("->"));
        holds("rule 2: no method reference", !code.contains("::"));
        holds("rule 5: no static block", !Pattern.compile("\\bstatic\\s*\\{").matcher(code).find());
        holds("rule 4: none of Exact", !code.contains("Exact("));
        holds("rule 10: no texts joined by +", !Pattern.compile("\"\\s*\\+|\\+\\s*\"").matcher(code).find());
        holds("rule 9: no loop without a bound",
            !Pattern.compile("while\\s*\\(\\s*true|for\\s*\\([^;]*;\\s*;").matcher(code).find());
    }

    /** Rule 4. */
    private static void onlyTheLibraryTold(String code) {
        Matcher imports = Pattern.compile("import ([\\w.]+);").matcher(code);
        while (imports.find()) {
            holds("rule 4: import " + imports.group(1), Set.of("java.util.Arrays", "java.util.ArrayList", "java.util.List",
                "java.util.Iterator").contains(imports.group(1)));
        }
        Set<String> told = Set.of("Arrays.fill", "Arrays.copyOf", "Arrays.copyOfRange", "System.arraycopy", "Math.max",
            "Math.min", "Math.abs", "Math.floorDiv", "Math.floorMod", "Integer.compare", "Integer.bitCount",
            "Integer.MAX_VALUE", "Integer.MIN_VALUE", "Long.compare", "Long.bitCount", "Long.MAX_VALUE", "Long.MIN_VALUE");
        Matcher calls = Pattern.compile("(?<![.\\w])(Arrays|System|Math|Long|Integer)\\.(\\w+)").matcher(code);
        while (calls.find()) {
            holds("rule 4: library: " + calls.group(), told.contains(calls.group()));
        }
    }

    /** Rule 11: short methods; rule 8: none calls itself (CompiledTest looks at longer ways around). */
    private static void sizes(String code) {
        Matcher heads = Pattern.compile("(?m)^( {4}| {8})(public|private)[^;=]*?(\\w+)\\(([^)]*)\\) \\{$").matcher(code);
        int methods = 0;
        int told = VectorWays.class.getConstructors().length + publicMethods();
        while (heads.find()) {
            int end = code.indexOf("\n" + heads.group(1) + "}\n", heads.end());
            String body = code.substring(heads.end(), end);
            methods++;
            holds("rule 11: sixty lines: " + heads.group(3), body.lines().count() <= 60);
            holds("rule 8: doesn't call itself: " + heads.group(3),
                !Pattern.compile("(?<![.\\w])" + heads.group(3) + "\\(").matcher(body).find());
        }
        holds("methods are looked at", methods > told);
    }

    private static int publicMethods() {
        int all = 0;
        for (Method method : VectorWays.class.getDeclaredMethods()) {
            all += Modifier.isPublic(method.getModifiers()) ? 1 : 0;
        }
        return all;
    }
}
