import java.io.IOException;
import java.lang.reflect.Constructor;
import java.lang.reflect.Executable;
import java.lang.reflect.Field;
import java.lang.reflect.Method;
import java.lang.reflect.Modifier;
import java.nio.file.Files;
import java.nio.file.Path;
import java.util.Arrays;
import java.util.TreeMap;
import java.util.TreeSet;
import java.util.regex.Matcher;
import java.util.regex.Pattern;
import java.util.stream.Collectors;

/** The public face, as the document's block of Java has it, and nothing beside it (LANGUAGE.md, rule 1). */
public final class FaceTest {
    private static final int CALLS = 15;

    public static void main(String[] args) throws IOException, IllegalAccessException {
        String document = Files.readString(Path.of(args.length > 0 ? args[0] : ".").resolve("../shared/DOC.md"));
        int start = document.indexOf("```java");
        String block = document.substring(start, document.indexOf("```", start + 7));
        calls(block);
        constants(block);
        nothingElseIsSeen();
        Checks.end("face");
    }

    private static void calls(String block) {
        TreeSet<String> due = new TreeSet<>();
        Matcher call = Pattern.compile("public (\\w+ )?(\\w+)\\(([^)]*)\\)( throws [\\w, ]+)?;").matcher(block);
        while (call.find()) {
            String types = call.group(3).replaceAll("(\\w+) \\w+", "$1").replace(" ", "");
            String result = call.group(1) == null ? "" : call.group(1);
            due.add(result + call.group(2) + "(" + types + ")" + (call.group(4) == null ? "" : call.group(4)));
        }
        TreeSet<String> got = new TreeSet<>();
        for (Method method : OrderedCast.class.getDeclaredMethods()) {
            if (Modifier.isPublic(method.getModifiers())) {
                Checks.due(method.getName() + " is static", Modifier.isStatic(method.getModifiers()) ? 1 : 0, 0);
                got.add(method.getReturnType() + " " + method.getName() + told(method));
            }
        }
        for (Constructor<?> constructor : OrderedCast.class.getDeclaredConstructors()) {
            if (Modifier.isPublic(constructor.getModifiers())) {
                got.add("OrderedCast" + told(constructor));
            }
        }
        Checks.due("the face", got, due);
        Checks.due("calls of the face", due.size(), CALLS);
    }

    private static String told(Executable call) {
        String thrown = names(call.getExceptionTypes(), ", ");
        return "(" + names(call.getParameterTypes(), ",") + ")" + (thrown.isEmpty() ? "" : " throws " + thrown);
    }

    private static String names(Class<?>[] types, String between) {
        return Arrays.stream(types).map(Class::getSimpleName).collect(Collectors.joining(between));
    }

    private static void constants(String block) throws IllegalAccessException {
        TreeMap<String, Integer> due = new TreeMap<>();
        Matcher constant = Pattern.compile("(\\w+) = (-?\\d+)").matcher(block);
        while (constant.find()) {
            due.put(constant.group(1), Integer.valueOf(constant.group(2)));
        }
        TreeMap<String, Integer> got = new TreeMap<>();
        for (Field field : OrderedCast.class.getDeclaredFields()) {
            if (Modifier.isPublic(field.getModifiers())) {
                Checks.due(field.getName() + " is a constant",
                        Modifier.isStatic(field.getModifiers()) && Modifier.isFinal(field.getModifiers()) ? 1 : 0, 1);
                Checks.due(field.getName() + " is an int", field.getType() == int.class ? 1 : 0, 1);
                got.put(field.getName(), field.getInt(null));
            }
        }
        Checks.due("the constants", got, due);
        Checks.due("so many constants", due.size(), 9);
    }

    private static void nothingElseIsSeen() {
        int kind = OrderedCast.class.getModifiers();
        Checks.due("public and final", Modifier.isPublic(kind) && Modifier.isFinal(kind) ? 1 : 0, 1);
        for (Field field : OrderedCast.class.getDeclaredFields()) {
            seenOrPrivate(field.getName(), field.getModifiers(), field.isSynthetic());
        }
        for (Method method : OrderedCast.class.getDeclaredMethods()) {
            seenOrPrivate(method.getName(), method.getModifiers(), method.isSynthetic());
        }
        for (Constructor<?> constructor : OrderedCast.class.getDeclaredConstructors()) {
            seenOrPrivate("constructor", constructor.getModifiers(), constructor.isSynthetic());
        }
        for (Class<?> inside : OrderedCast.class.getDeclaredClasses()) {
            int seen = inside.getModifiers();
            boolean right = Modifier.isStatic(seen) && !Modifier.isPublic(seen) && !Modifier.isProtected(seen);
            Checks.due(inside.getSimpleName() + " is static and seen by nobody else", right ? 1 : 0, 1);
        }
    }

    private static void seenOrPrivate(String name, int kind, boolean synthetic) {
        boolean right = synthetic || Modifier.isPublic(kind) || Modifier.isPrivate(kind);
        Checks.due(name + " is public or private", right ? 1 : 0, 1);
    }
}
