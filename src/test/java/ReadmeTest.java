import java.io.IOException;
import java.lang.reflect.Method;
import java.lang.reflect.Modifier;
import java.nio.file.Files;
import java.nio.file.Path;
import java.util.regex.Matcher;
import java.util.regex.Pattern;

/** The answers that README.md shows are those of the program, and no call is left out there. */
public final class ReadmeTest {
    private static final Path README = Path.of("README.md");
    private static final Pattern EXAMPLE = Pattern.compile("```java\n(.*?)```", Pattern.DOTALL);
    private static final Pattern CALL =
            Pattern.compile("desk\\.(\\w+)\\((.*)\\); +// (-?\\w+)(:.*)?");
    private static final String BEGIN = "LivesAhead desk = new LivesAhead();";

    public static void main(String[] args) throws IOException {
        String text = Files.readString(README);
        examples(text);
        everyCall(text);
        Due.end("ReadmeTest");
    }

    private static void examples(String text) {
        int examples = 0;
        Matcher example = EXAMPLE.matcher(text);
        while (example.find()) {
            examples++;
            String[] lines = example.group(1).strip().split("\n");
            Due.due("how example " + examples + " begins", lines[0], BEGIN);
            StringBuilder calls = new StringBuilder();
            for (int i = 1; i < lines.length; i++) {
                calls.append(asScript(lines[i])).append('\n');
            }
            new Script("README.md, example " + examples, calls.toString()).run(false);
        }
        Due.due("examples", examples, 2);
    }

    private static String asScript(String line) {
        Matcher call = CALL.matcher(line);
        if (!call.matches()) {
            throw new IllegalStateException("no call with its answer: " + line);
        }
        String arguments = call.group(2);
        String words = arguments.matches("'.'") ? "#" + (int) arguments.charAt(1)
                : arguments.replace(",", "");
        return (call.group(1) + " " + words).strip() + " = " + call.group(3);
    }

    private static void everyCall(String text) {
        for (Method method : LivesAhead.class.getDeclaredMethods()) {
            if (Modifier.isPublic(method.getModifiers())) {
                Due.due("README.md names " + method.getName(),
                        text.contains("`" + method.getName() + "(") ? 1 : 0, 1);
            }
        }
    }
}
