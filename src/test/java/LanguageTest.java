import java.io.IOException;
import java.nio.file.Files;
import java.nio.file.Path;
import java.util.ArrayList;
import java.util.List;
import java.util.Map;
import java.util.Set;
import java.util.TreeMap;
import java.util.TreeSet;
import java.util.regex.Matcher;
import java.util.regex.Pattern;

/** Those rules of ../shared/LANGUAGE.md that can be seen from the text of the program. */
public final class LanguageTest {
    private static final List<String> BANNED = List.of("->", "::", "\\bfinally\\b", "\\bsynchronized\\b",
            "\\bassert\\b", "\\bvolatile\\b", "\\bThread\\b", "\\bRandom\\b", "\\bSystem\\.(?!arraycopy)", "\\bgetMessage\\b",
            "\\btoString\\b", "\\bequals\\b", "\\bhashCode\\b", "\\bObject\\b", "Exact\\(", "\\bStream\\b", "\\bvar\\b",
            "\\bpackage\\b", "\"", "\\bMap\\b", "@", "\\bfor \\(;;\\)", "while \\(true\\)");
    private static final Set<String> IMPORTS =
            Set.of("java.util.Arrays", "java.util.ArrayList", "java.util.List", "java.util.Iterator");
    private static final Pattern METHOD =
            Pattern.compile("^( {4}| {8})((?:(?:public|private|static|final|abstract) )*)([\\w\\[\\]]+) (\\w+)\\(([^)]*)\\)");

    private static final Map<String, String> bodies = new TreeMap<>();

    public static void main(String[] args) throws IOException {
        Path file = Path.of(args.length > 0 ? args[0] : ".", "src/main/java/OrderedCast.java");
        String text = Files.readString(file);
        String code = text.replaceAll("(?s)/\\*.*?\\*/", "").replaceAll("//[^\n]*", "");
        bannedWords(code);
        imports(code);
        methods(code);
        depths();
        classes(code);
        Checks.due("signs beyond 127", text.chars().filter(c -> c > 127).count(), 0);
        Checks.end("language");
    }

    private static void bannedWords(String code) {
        for (String word : BANNED) {
            Checks.due("the program has " + word, Pattern.compile(word).matcher(code).find() ? 1 : 0, 0);
        }
    }

    private static void imports(String code) {
        Matcher m = Pattern.compile("import ([\\w.*]+);").matcher(code);
        while (m.find()) {
            Checks.due("import " + m.group(1), IMPORTS.contains(m.group(1)) ? 1 : 0, 1);
        }
    }

    private static void methods(String code) {
        TreeSet<String> faceNames = new TreeSet<>();
        List<String> ownNames = new ArrayList<>();
        String[] lines = code.split("\n");
        for (int i = 0; i < lines.length; i++) {
            Matcher m = METHOD.matcher(lines[i]);
            if (!m.find() || Set.of("new", "return", "else", "throw").contains(m.group(3))) {
                continue;
            }
            String name = m.group(4);
            if (m.group(2).contains("public")) {
                faceNames.add(name);
            } else {
                ownNames.add(name);
            }
            Checks.due(name + ": too many parameters", m.group(5).split(",").length > 7 ? 1 : 0, 0);
            int end = i;
            while (end < lines.length && !lines[end].equals(m.group(1) + "}") && !lines[end].endsWith(";")
                    || end < lines.length && lines[end].startsWith(m.group(1) + " ")) {
                end++;
            }
            Checks.due(name + ": too long", end - i > 60 ? 1 : 0, 0);
            String body = String.join("\n", List.of(lines).subList(i + 1, Math.max(i + 1, Math.min(end, lines.length))));
            bodies.merge(name, body, String::concat);
        }
        Checks.due("the face", faceNames.toString(),
                "[at, clear, crash, deliver, flying, heard, hello, lose, packet, say, shared, suspect, thing, told]");
        for (String name : ownNames) {
            Checks.due("a method of one's own named " + name, faceNames.contains(name) ? 1 : 0, 0);
        }
        Checks.due("methods of one's own are found", ownNames.size() > 20 ? 1 : 0, 1);
    }

    /** Rule 11: calls go at most eight deep. Methods of one name count as one, which can only seem deeper. */
    private static void depths() {
        for (String name : bodies.keySet()) {
            Checks.due("calls from " + name + " go too deep", depth(name, new TreeSet<>()) > 8 ? 1 : 0, 0);
        }
        Checks.due("the depth of deliver is found", depth("deliver", new TreeSet<>()) >= 6 ? 1 : 0, 1);
    }

    private static int depth(String name, TreeSet<String> above) {
        int deepest = 0;
        if (above.add(name)) {
            Matcher m = Pattern.compile("(\\w+)\\(").matcher(bodies.get(name));
            while (m.find()) {
                if (bodies.containsKey(m.group(1))) {
                    deepest = Math.max(deepest, depth(m.group(1), above));
                }
            }
            above.remove(name);
        }
        return deepest + 1;
    }

    private static void classes(String code) {
        Matcher m = Pattern.compile("\\n( *)([a-z ]*)class \\w+").matcher(code);
        int count = 0;
        while (m.find()) {
            count++;
            boolean inside = !m.group(1).isEmpty();
            Checks.due("a class inside is private and static",
                    inside && !(m.group(2).contains("private") && m.group(2).contains("static")) ? 1 : 0, 0);
        }
        Checks.due("too many classes", count > 12 ? 1 : 0, 0);
        Checks.due("classes are found", count > 1 ? 1 : 0, 1);
    }
}
