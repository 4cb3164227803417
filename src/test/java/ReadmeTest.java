import java.io.IOException;
import java.lang.reflect.InvocationTargetException;
import java.lang.reflect.Method;
import java.lang.reflect.Modifier;
import java.nio.file.Files;
import java.nio.file.Path;
import java.util.Arrays;
import java.util.TreeMap;
import java.util.TreeSet;
import java.util.regex.Matcher;
import java.util.regex.Pattern;
import java.util.stream.Collectors;

/** README.md: the calls that it shows are made as they stand there, and have to answer what stands behind them. */
public final class ReadmeTest {
    private static final Pattern MADE = Pattern.compile("OrderedCast x = new OrderedCast\\((-?\\d+), (-?\\d+)\\);");
    private static final Pattern CALL = Pattern.compile("x\\.(\\w+)\\(([-\\d, ]*)\\);(?:\\s+// (throws \\w+|[\\w.-]+): .+)?");
    private static final Pattern ROW = Pattern.compile("(?m)^\\| `(\\w+)\\(([^)]*)\\)` \\| (.*) \\| (.*) \\|$");

    private static final TreeMap<String, Method> face = new TreeMap<>();
    private static final TreeSet<String> shown = new TreeSet<>();

    public static void main(String[] args) throws IOException {
        String text = Files.readString(Path.of(args.length > 0 ? args[0] : ".").resolve("README.md"));
        for (Method method : OrderedCast.class.getDeclaredMethods()) {
            if (Modifier.isPublic(method.getModifiers())) {
                face.put(method.getName(), method);
            }
        }
        runBlocks(text);
        tableOfCalls(text);
        whatItHasToSay(text);
        Checks.end("readme");
    }

    private static void runBlocks(String text) {
        Matcher block = Pattern.compile("(?s)```java\n(.*?)```").matcher(text);
        TreeSet<Integer> engines = new TreeSet<>();
        while (block.find()) {
            String[] lines = block.group(1).split("\n");
            Matcher made = MADE.matcher(lines[0]);
            Checks.due("a block begins with a new object", made.matches() ? 1 : 0, 1);
            engines.add(Integer.parseInt(made.group(2)));
            OrderedCast x = new OrderedCast(Integer.parseInt(made.group(1)), Integer.parseInt(made.group(2)));
            for (int i = 1; i < lines.length; i++) {
                call(x, lines[i]);
            }
        }
        Checks.due("the engines that are shown", engines.toString(), "[0, 1]");
        Checks.due("the calls that are shown", shown, new TreeSet<>(face.keySet()));
    }

    private static void call(OrderedCast x, String line) {
        Matcher call = CALL.matcher(line);
        Checks.due(line + " is a call", call.matches() && face.containsKey(call.group(1)) ? 1 : 0, 1);
        Method method = face.get(call.group(1));
        shown.add(method.getName());
        String due = call.group(3) == null ? "null" : constant(call.group(3));
        Checks.due(line, answer(x, method, call.group(2)), due);
    }

    private static String answer(OrderedCast x, Method method, String arguments) {
        Object[] values = arguments.isEmpty() ? new Object[0]
                : Arrays.stream(arguments.split(", ")).map(Integer::valueOf).toArray();
        try {
            return String.valueOf(method.invoke(x, values));
        } catch (InvocationTargetException e) {
            return "throws " + e.getCause().getClass().getSimpleName();
        } catch (ReflectiveOperationException e) {
            throw new AssertionError(line(method, arguments), e);
        }
    }

    private static String line(Method method, String arguments) {
        return method.getName() + "(" + arguments + ")";
    }

    /** A constant stands for its number. */
    private static String constant(String answer) {
        if (!answer.startsWith("OrderedCast.")) {
            return answer;
        }
        try {
            return String.valueOf(OrderedCast.class.getField(answer.substring(answer.indexOf('.') + 1)).getInt(null));
        } catch (ReflectiveOperationException e) {
            return answer + ", which is no constant";
        }
    }

    /** Each call of the face has a row, with as many arguments as it takes and all exceptions that it may throw. */
    private static void tableOfCalls(String text) {
        TreeSet<String> rows = new TreeSet<>();
        Matcher row = ROW.matcher(text);
        while (row.find()) {
            Method method = face.get(row.group(1));
            Checks.due(row.group(1) + " is a call", method == null ? 0 : 1, 1);
            rows.add(row.group(1));
            int arguments = row.group(2).isEmpty() ? 0 : row.group(2).split(",").length;
            Checks.due("arguments of " + row.group(1), arguments, method.getParameterCount());
            String thrown = Arrays.stream(method.getExceptionTypes())
                    .map(kind -> kind.getSimpleName().replace("Exception", "")).collect(Collectors.joining(", "));
            Checks.due("exceptions of " + row.group(1), row.group(4), thrown.isEmpty() ? "nothing" : thrown);
            Checks.due(row.group(1) + " answers nothing", row.group(3).equals("nothing") ? 1 : 0,
                    method.getReturnType() == void.class ? 1 : 0);
        }
        Checks.due("the table of calls", rows, new TreeSet<>(face.keySet()));
    }

    private static void whatItHasToSay(String text) {
        String[] parts = {"at most 512 calls", "src/main/java/OrderedCast.java", ".ci/run", "../shared/tests",
            "IndexOutOfBoundsException", "IllegalArgumentException", "IllegalStateException",
            "UnsupportedOperationException", "by numbers", "by clocks"};
        for (String part : parts) {
            Checks.due("README.md speaks of " + part, text.contains(part) ? 1 : 0, 1);
        }
    }
}
