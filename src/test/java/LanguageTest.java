import java.io.IOException;
import java.lang.reflect.Constructor;
import java.lang.reflect.Field;
import java.lang.reflect.Method;
import java.lang.reflect.Modifier;
import java.nio.file.Files;
import java.nio.file.Path;
import java.util.Arrays;
import java.util.List;
import java.util.Map;
import java.util.Set;
import java.util.TreeMap;
import java.util.TreeSet;
import java.util.regex.Matcher;
import java.util.regex.Pattern;
import java.util.stream.Collectors;

/** The document's face, and those rules of ../shared/LANGUAGE.md that can be seen from the class or its text. */
public final class LanguageTest {
    /** Rule 2, 3, 4, 5, 6, 9 and 13: what no program within them has, and the rule's number. */
    private static final Map<String, Integer> BANNED = new TreeMap<>(Map.ofEntries(
            Map.entry("::", 2), Map.entry("\\)\\s*->", 2), Map.entry("\\bObject\\b", 3), Map.entry("\\bMap\\b", 3),
            Map.entry("Exact\\(", 4), Map.entry("\\bSystem\\.(?!arraycopy)", 4), Map.entry("\\bstatic\\s*\\{", 5),
            Map.entry("\\bfinally\\b", 6), Map.entry("\\bassert\\b", 6), Map.entry("\\bsynchronized\\b", 6),
            Map.entry("\\bgetMessage\\b", 6), Map.entry("\\bhashCode\\b", 6), Map.entry("\\btoString\\(\\)\\s*\\{", 6),
            Map.entry("\\bwhile \\(true\\)", 9), Map.entry("\\bfor \\(;;", 9), Map.entry("\"\"\\s*\\+|\\+\\s*\"\"", 10),
            Map.entry("\\bThread\\b", 13), Map.entry("\\brandom\\b|\\bRandom\\b", 13), Map.entry("\\bjava\\.(io|nio|net|time)\\b", 13)));
    private static final Set<String> IMPORTS = Set.of("java.util.Arrays", "java.util.ArrayList", "java.util.List",
            "java.util.Iterator", "java.util.NoSuchElementException");
    private static final Set<String> NO_METHODS = Set.of("if", "for", "while", "switch", "catch", "try", "return", "new", "else");
    private static final Pattern METHOD =
            Pattern.compile("[\\w\\]>]\\s+(\\w+)\\(([^()]*)\\)\\s*(?:throws [\\w, \\n]+)?\\{");

    private static final Map<String, String> bodies = new TreeMap<>();

    public static void main(String[] args) throws IOException {
        Path root = Path.of(args.length > 0 ? args[0] : ".");
        face(Files.readString(root.resolve("../shared/DOC.md")));
        nothingElseIsSeen();
        classesInside();
        String text = Files.readString(root.resolve("src/main/java/OrderedCast.java"));
        String code = text.replaceAll("(?s)/\\*.*?\\*/", "").replaceAll("//[^\n]*", "").replaceAll("\"[^\"\n]*\"", "\"\"");
        Checks.due("signs beyond 127", text.chars().filter(c -> c > 127).count(), 0);
        bannedWords(code);
        imports(code);
        methods(code);
        depths();
        Checks.end("language");
    }

    /** The public face, as the document's block of Java has it. */
    private static void face(String document) {
        TreeSet<String> due = new TreeSet<>();
        String block = document.substring(document.indexOf("```java"), document.indexOf("```", document.indexOf("```java") + 7));
        Matcher call = Pattern.compile("public (\\w+ )?(\\w+)\\(([^)]*)\\)").matcher(block);
        while (call.find()) {
            String types = call.group(3).replaceAll("(\\w+) \\w+", "$1").replace(" ", "");
            due.add((call.group(1) == null ? "" : call.group(1)) + call.group(2) + "(" + types + ")");
        }
        TreeSet<String> got = new TreeSet<>();
        for (Method method : OrderedCast.class.getDeclaredMethods()) {
            if (Modifier.isPublic(method.getModifiers())) {
                got.add(method.getReturnType() + " " + method.getName() + "(" + names(method.getParameterTypes()) + ")");
            }
        }
        for (Constructor<?> constructor : OrderedCast.class.getDeclaredConstructors()) {
            if (Modifier.isPublic(constructor.getModifiers())) {
                got.add("OrderedCast(" + names(constructor.getParameterTypes()) + ")");
            }
        }
        Checks.due("the face", got, due);
        Checks.due("calls of the face", due.size(), 15);
    }

    private static String names(Class<?>[] types) {
        return Arrays.stream(types).map(Class::getSimpleName).collect(Collectors.joining(","));
    }

    /** Rule 1: no other member that others see; rule 5: static fields are final. */
    private static void nothingElseIsSeen() {
        int kind = OrderedCast.class.getModifiers();
        Checks.due("public and final", Modifier.isPublic(kind) && Modifier.isFinal(kind) ? 1 : 0, 1);
        TreeSet<String> constants = new TreeSet<>();
        for (Field field : OrderedCast.class.getDeclaredFields()) {
            boolean seen = !Modifier.isPrivate(field.getModifiers());
            if (seen && !field.isSynthetic()) {
                constants.add(field.getName());
            }
            boolean loose = Modifier.isStatic(field.getModifiers()) && !Modifier.isFinal(field.getModifiers());
            Checks.due(field.getName() + " is static and not final", loose ? 1 : 0, 0);
        }
        Checks.due("constants", constants.toString(), "[ASK, HELLO, HOLE, NEW, NONE, ORDER, SAID, STATE, WANT]");
        TreeSet<String> own = new TreeSet<>();
        TreeSet<String> faceNames = new TreeSet<>();
        for (Method method : OrderedCast.class.getDeclaredMethods()) {
            boolean isPublic = Modifier.isPublic(method.getModifiers());
            boolean seen = !isPublic && !Modifier.isPrivate(method.getModifiers()) && !method.isSynthetic();
            Checks.due(method.getName() + " is seen by others", seen ? 1 : 0, 0);
            (isPublic ? faceNames : own).add(method.getName());
        }
        own.retainAll(faceNames);
        Checks.due("private methods that bear the name of a public one", own.toString(), "[]");
    }

    /** Rules 2 and 11: classes inside are static, not public or protected, and some twelve with some twenty fields. */
    private static void classesInside() {
        Class<?>[] inside = OrderedCast.class.getDeclaredClasses();
        Checks.due("too many classes", inside.length > 12 ? 1 : 0, 0);
        for (Class<?> one : inside) {
            int kind = one.getModifiers();
            boolean right = Modifier.isStatic(kind) && !Modifier.isPublic(kind) && !Modifier.isProtected(kind);
            Checks.due(one.getSimpleName() + " is static and seen by nobody else", right ? 1 : 0, 1);
            long fields = Arrays.stream(one.getDeclaredFields()).filter(f -> !Modifier.isStatic(f.getModifiers())).count();
            Checks.due(one.getSimpleName() + " has too many fields", fields > 20 ? 1 : 0, 0);
        }
    }

    private static void bannedWords(String code) {
        BANNED.forEach((word, rule) ->
                Checks.due("the program has " + word + ", rule " + rule, Pattern.compile(word).matcher(code).find() ? 1 : 0, 0));
    }

    private static void imports(String code) {
        Checks.due("a package line", Pattern.compile("(?m)^\\s*package ").matcher(code).find() ? 1 : 0, 0);
        Matcher m = Pattern.compile("import ([\\w.* ]+);").matcher(code);
        while (m.find()) {
            Checks.due("import " + m.group(1), IMPORTS.contains(m.group(1)) ? 1 : 0, 1);
        }
    }

    /** Rule 11: parameters and lengths. */
    private static void methods(String code) {
        Matcher m = METHOD.matcher(code);
        while (m.find()) {
            String name = m.group(1);
            if (NO_METHODS.contains(name)) {
                continue;
            }
            String body = code.substring(m.end(), endOfBody(code, m.end()));
            Checks.due(name + ": too many parameters", m.group(2).split(",").length > 7 ? 1 : 0, 0);
            Checks.due(name + ": too long", body.lines().count() > 60 ? 1 : 0, 0);
            bodies.merge(name, body, String::concat);
        }
        for (String call : List.of("say", "deliver", "suspect", "clear")) {
            Checks.due(call + " is found", bodies.containsKey(call) ? 1 : 0, 1);
        }
    }

    private static int endOfBody(String code, int start) {
        int open = 1;
        int end = start;
        while (open > 0 && end < code.length()) {
            char sign = code.charAt(end);
            open += sign == '{' ? 1 : sign == '}' ? -1 : 0;
            end++;
        }
        return end;
    }

    /** Rule 11: calls go at most eight deep. Methods of one name count as one, which can only seem deeper. */
    private static void depths() {
        for (String name : bodies.keySet()) {
            Checks.due("calls from " + name + " go too deep", depth(name, new TreeSet<>()) > 8 ? 1 : 0, 0);
        }
    }

    private static int depth(String name, TreeSet<String> above) {
        int deepest = 0;
        if (above.add(name)) {
            Matcher m = Pattern.compile("(\\w+)\\(").matcher(bodies.get(name));
            while (m.find()) {
                if (bodies.containsKey(m.group(1))) {
                    deepest = Math.max(deepest, depth(m.group(1), above));
                }
            }
            above.remove(name);
        }
        return deepest + 1;
    }
}
