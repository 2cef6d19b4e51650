import java.io.IOException;
import java.lang.reflect.Field;
import java.lang.reflect.Method;
import java.lang.reflect.Modifier;
import java.nio.file.Files;
import java.nio.file.Path;
import java.util.ArrayList;
import java.util.List;
import java.util.regex.Matcher;
import java.util.regex.Pattern;

/** What of LANGUAGE.md can be seen without a compiler's help: words, lengths, fields, calls. */
public final class LanguageTest {
    private static final Path PROGRAM = Path.of("src/main/java/LivesAhead.java");
    private static final Pattern FORBIDDEN = Pattern.compile(
            "->|::|\"|\\b(import|package|try|catch|finally|throw|throws|synchronized|assert|"
            + "native|transient|volatile|equals|hashCode|toString|double|Exact|var|record|enum)\\b");
    private static final Pattern LIBRARY = Pattern.compile("\\b([A-Z][A-Za-z]*[a-z])\\.(\\w+)");
    private static final List<String> ALLOWED =
            List.of("System.arraycopy", "Integer.bitCount", "Math.min");
    private static final Pattern METHOD = Pattern.compile(
            "^ +(?:public |private |static |final )*[A-Za-z\\[\\]]+ (\\w+)\\(.*\\) \\{$");

    public static void main(String[] args) throws IOException {
        List<String> lines = code(Files.readString(PROGRAM).split("\n"));
        words(lines);
        methodLengths(lines);
        newObjects(lines);
        fields();
        depth(lines);
        Due.end("LanguageTest");
    }

    /** The lines without comments, each of which stands on lines of its own. */
    private static List<String> code(String[] lines) {
        List<String> code = new ArrayList<>();
        for (String line : lines) {
            String bare = line.strip();
            boolean comment = bare.startsWith("/*") || bare.startsWith("*") || bare.startsWith("//");
            code.add(comment ? "" : line);
        }
        return code;
    }

    private static void words(List<String> lines) {
        for (int i = 0; i < lines.size(); i++) {
            Matcher forbidden = FORBIDDEN.matcher(lines.get(i));
            Due.due("line " + (i + 1), forbidden.find() ? forbidden.group() : "", "");
            Matcher library = LIBRARY.matcher(lines.get(i));
            while (library.find()) {
                Due.due("line " + (i + 1) + " " + library.group(),
                        ALLOWED.contains(library.group()) ? 1 : 0, 1);
            }
        }
    }

    private static void methodLengths(List<String> lines) {
        for (int i = 0; i < lines.size(); i++) {
            if (METHOD.matcher(lines.get(i)).find()) {
                String end = lines.get(i).replaceAll("\\S.*", "") + "}";
                int last = i;
                while (!lines.get(last).equals(end)) {
                    last++;
                }
                Due.due("a short method: " + lines.get(i).strip(), last - i < 60 ? 1 : 0, 1);
            }
        }
    }

    /** All rows are made in constructors: a new object stands in these or beside a field alone. */
    private static void newObjects(List<String> lines) {
        boolean inMethod = false;
        String end = "";
        for (int i = 0; i < lines.size(); i++) {
            String line = lines.get(i);
            if (METHOD.matcher(line).find() && !line.contains(" new ")) {
                inMethod = true;
                end = line.replaceAll("\\S.*", "") + "}";
            }
            boolean makes = line.matches(".*\\bnew\\b.*");
            Due.due("line " + (i + 1) + " makes no object", inMethod && makes ? 1 : 0, 0);
            inMethod = inMethod && !line.equals(end);
        }
    }

    private static void fields() {
        List<Class<?>> classes = new ArrayList<>(List.of(LivesAhead.class.getDeclaredClasses()));
        Due.due("few classes", classes.size() < 12 ? 1 : 0, 1);
        classes.add(LivesAhead.class);
        for (Class<?> c : classes) {
            int own = 0;
            for (Field field : c.getDeclaredFields()) {
                boolean isStatic = Modifier.isStatic(field.getModifiers());
                own += isStatic ? 0 : 1;
                Due.due("static is final: " + field,
                        isStatic && !Modifier.isFinal(field.getModifiers()) ? 1 : 0, 0);
            }
            Due.due("few fields in " + c, own <= 20 ? 1 : 0, 1);
            for (Method method : c.getDeclaredMethods()) {
                Due.due("few parameters: " + method, method.getParameterCount() <= 7 ? 1 : 0, 1);
            }
        }
    }

    /** By names alone: methods of one name count as one that calls all that any of them calls. */
    private static void depth(List<String> lines) {
        List<String> names = new ArrayList<>();
        List<StringBuilder> bodies = new ArrayList<>();
        for (String line : lines) {
            Matcher method = METHOD.matcher(line);
            if (method.find() && !line.contains(" new ")) {
                int known = names.indexOf(method.group(1));
                names.add(method.group(1));
                bodies.add(known < 0 ? new StringBuilder() : bodies.get(known));
            } else if (!bodies.isEmpty()) {
                bodies.get(bodies.size() - 1).append(line).append('\n');
            }
        }
        for (String name : names) {
            int deep = depth(name, names, bodies, 1);
            Due.due("calls from " + name + " go " + deep + " deep", deep <= 8 ? 1 : 0, 1);
        }
    }

    private static int depth(String name, List<String> names, List<StringBuilder> bodies, int at) {
        int deepest = at;
        Matcher call = Pattern.compile("\\b(\\w+)\\(").matcher(bodies.get(names.indexOf(name)));
        while (call.find() && deepest <= 20) {
            if (names.contains(call.group(1))) {
                deepest = Math.max(deepest, depth(call.group(1), names, bodies, at + 1));
            }
        }
        return deepest;
    }
}
