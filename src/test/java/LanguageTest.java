import java.io.IOException;
import java.lang.reflect.Field;
import java.lang.reflect.Method;
import java.lang.reflect.Modifier;
import java.nio.charset.StandardCharsets;
import java.nio.file.Files;
import java.nio.file.Path;
import java.util.ArrayList;
import java.util.Arrays;
import java.util.List;
import java.util.Map;
import java.util.Set;
import java.util.TreeMap;
import java.util.TreeSet;
import java.util.regex.Matcher;
import java.util.regex.Pattern;

/**
 * ../shared/LANGUAGE.md, as far as the program's text and its classes tell: the rule's number stands above each
 * test. What a reader alone can tell (rules 7 to 9, and most of 12) is not looked at here.
 */
final class LanguageTest {
    private static final Path PROGRAM = Path.of("src/main/java/PartitionedCache.java");
    private static final int MOST_LINES = 60, MOST_PARAMETERS = 7, MOST_CLASSES = 12, MOST_FIELDS = 20, MOST_DEPTH = 8;

    private static final Set<String> THROWN = Set.of("IllegalStateException", "IllegalArgumentException",
            "IndexOutOfBoundsException", "ArithmeticException", "UnsupportedOperationException",
            "NoSuchElementException", "RuntimeException");
    // Words of Java that the program does without; most are ruled out, the others would need a closer look.
    private static final Set<String> UNUSED_WORDS = Set.of("package", "import", "try", "catch", "finally", "assert",
            "synchronized", "volatile", "transient", "native", "strictfp", "protected", "instanceof", "var", "yield",
            "record", "sealed", "extends", "implements", "Object", "Thread", "Random", "Runtime", "Throwable", "Error");
    private static final Set<String> LIBRARY_CALLS = Set.of("System.arraycopy", "Math.max", "Math.min", "Math.abs",
            "Math.floorMod", "Math.floorDiv");

    private final String text;
    private final String code;

    /** The code is the text with its comments taken out and its strings and characters emptied. */
    private LanguageTest(String text) {
        this.text = text;
        code = text.replaceAll("(?s)/\\*.*?\\*/", "").replaceAll("//[^\n]*", "")
                .replaceAll("'(\\\\.|[^'\\\\])'", "''").replaceAll("\"(\\\\.|[^\"\\\\])*\"", "\"\"");
    }

    public static void main(String[] args) throws IOException {
        LanguageTest test = new LanguageTest(Files.readString(PROGRAM, StandardCharsets.ISO_8859_1));
        test.words();
        test.characters();
        test.libraryCalls();
        test.exceptions();
        test.objectsAreMadeByConstructors();
        test.lengthsOfMethods();
        test.deepestChainOfCalls();
        List<Class<?>> classes = new ArrayList<>(Arrays.asList(PartitionedCache.class.getDeclaredClasses()));
        classes.add(PartitionedCache.class);
        Checks.due("the number of classes is at most " + MOST_CLASSES, classes.size() <= MOST_CLASSES, true);
        for (Class<?> type : classes) {
            nestedClass(type);
            fields(type);
            parameters(type);
        }
        Checks.end("LanguageTest");
    }

    private List<String> all(String pattern, int group) {
        List<String> found = new ArrayList<>();
        Matcher matcher = Pattern.compile(pattern).matcher(code);
        while (matcher.find()) {
            found.add(matcher.group(group));
        }
        return found;
    }

    // ---- the text

    /** Rules 2, 6, 10 and 13. */
    private void words() {
        Set<String> found = new TreeSet<>(all("\\w+", 0));
        found.retainAll(UNUSED_WORDS);
        Checks.due("words that the program does without", found.toString(), "[]");
        Checks.due("lambdas, method references and annotations", all("->|::|@", 0).toString(), "[]");
        Checks.due("texts that are joined by +", all("\"\\s*\\+|\\+\\s*\"", 0).toString(), "[]");
    }

    /** Rule 4: "constants, whose signs are 1 to 127" */
    private void characters() {
        for (int i = 0; i < text.length(); i++) {
            char sign = text.charAt(i);
            if (sign != '\n' && (sign < 32 || sign > 126)) {
                Checks.due("the character " + i + " of the program's text", (int) sign, "32 to 126");
            }
        }
    }

    /** Rule 4: calls of the library's classes. */
    private void libraryCalls() {
        Set<String> calls = new TreeSet<>(all("\\b[A-Z][a-z]\\w*\\.\\w+", 0));
        calls.removeAll(LIBRARY_CALLS);
        Checks.due("calls of the library that are not listed here", calls.toString(), "[]");
    }

    /** Rule 6: "throw new E("a written text")" */
    private void exceptions() {
        Checks.due("throw is followed by new", all("\\bthrow\\b(?! new )", 0).toString(), "[]");
        for (String thrown : all("\\bthrow new (.*);", 1)) {
            String name = thrown.replaceAll("\\(.*", "");
            Checks.due("the exception " + name + " may be thrown", THROWN.contains(name), true);
            Checks.due("what is thrown has a written text", thrown, name + "(\"\")");
        }
    }

    /** The room: what is made in a constructor or a field's initialiser is made once an object. */
    private void objectsAreMadeByConstructors() {
        boolean constructor = false;
        for (String line : code.split("\n")) {
            if (line.matches(" {4,8}(public )?[A-Z]\\w*\\(.*\\) \\{")) {
                constructor = true;
            } else if (line.matches(" {4,8}}")) {
                constructor = false;
            } else if (line.matches(".*\\bnew\\b.*") && !line.contains("throw new ")) {
                boolean initialiser = line.matches(" {4,8}(private )?final \\S+ \\w+ = new .*;");
                Checks.due("made by a call: " + line.strip(), constructor || initialiser, true);
            }
        }
    }

    /** Is given a method's name and lines. */
    private interface MethodUse {
        void of(String name, List<String> lines);
    }

    /** The file's methods are indented by 4, those of the classes inside by 8. */
    private void eachMethod(MethodUse use) {
        Pattern head = Pattern.compile("( {4}| {8})(?! )[^=;]*?(\\w+)\\(.*");
        String[] lines = code.split("\n");
        for (int first = 0; first < lines.length; first++) {
            Matcher matcher = head.matcher(lines[first]);
            if (!matcher.matches() || Set.of("if", "for", "while", "switch").contains(matcher.group(2))) {
                continue;
            }
            int last = first;
            while (!lines[last].equals(matcher.group(1) + "}") && !lines[first].endsWith("}")) {
                last++;
            }
            use.of(matcher.group(2), Arrays.asList(lines).subList(first, last + 1));
            first = last;
        }
    }

    /** Rule 11: "Methods stay short (some sixty lines)" */
    private void lengthsOfMethods() {
        eachMethod((name, lines) -> Checks.due(name + " has " + lines.size() + " lines, at most " + MOST_LINES,
                lines.size() <= MOST_LINES, true));
    }

    /** Rules 8 and 11: there is no recursion, and "calls ... go at most eight deep". */
    private void deepestChainOfCalls() {
        Map<String, Set<String>> calls = new TreeMap<>();
        eachMethod((name, lines) -> calls.put(name, new TreeSet<>()));
        eachMethod((name, lines) -> {
            String method = String.join("\n", lines);
            Matcher call = Pattern.compile("(\\w+)\\(").matcher(method.substring(method.indexOf('{')));
            while (call.find()) {
                if (calls.containsKey(call.group(1))) {
                    calls.get(name).add(call.group(1));
                }
            }
        });
        Checks.due("the text's methods are found", calls.keySet().containsAll(Set.of("access", "lowest", "push",
                "copyFrom", "isTenantDigit", "textLength")), true);
        for (String name : calls.keySet()) {
            Checks.due("calls under " + name + " go at most " + MOST_DEPTH + " deep",
                    depth(calls, name, "", MOST_DEPTH + 1) <= MOST_DEPTH, true);
        }
    }

    /** Methods of a name are taken for one; one that calls its own name is another class's (copyFrom), one deeper. */
    private static int depth(Map<String, Set<String>> calls, String name, String caller, int most) {
        int deepest = 0;
        for (String called : calls.get(name)) {
            if (most > 1 && !(called.equals(name) && name.equals(caller))) {
                deepest = Math.max(deepest, depth(calls, called, name, most - 1));
            }
        }
        return 1 + deepest;
    }

    // ---- the classes

    /** Rule 2: "static nested classes"; rule 6: "No equals, hashCode or toString" */
    private static void nestedClass(Class<?> type) {
        if (type != PartitionedCache.class) {
            int modifiers = type.getModifiers();
            Checks.due(type + " is private or package-visible, and static", Modifier.isStatic(modifiers)
                    && !Modifier.isPublic(modifiers) && !Modifier.isProtected(modifiers), true);
        }
        for (Method method : type.getDeclaredMethods()) {
            Checks.due(type + "." + method.getName(),
                    Set.of("equals", "hashCode", "toString").contains(method.getName()), false);
        }
    }

    /** Rule 5: "Static fields are final"; rule 11: "a class some twenty fields beside its constants" */
    private static void fields(Class<?> type) {
        int own = 0;
        for (Field field : type.getDeclaredFields()) {
            if (Modifier.isStatic(field.getModifiers())) {
                Checks.due(field + " is final", Modifier.isFinal(field.getModifiers()), true);
                Checks.due(field + " is a number", field.getType() == int.class, true);
            } else {
                own++;
            }
        }
        Checks.due(type + " has at most " + MOST_FIELDS + " fields", own <= MOST_FIELDS, true);
    }

    /** Rule 11: "A method takes at most seven parameters." */
    private static void parameters(Class<?> type) {
        for (Method method : type.getDeclaredMethods()) {
            Checks.due(method + " takes at most " + MOST_PARAMETERS, method.getParameterCount() <= MOST_PARAMETERS,
                    true);
        }
    }
}
