import java.io.IOException;
import java.nio.file.Files;
import java.nio.file.Path;
import java.util.ArrayList;
import java.util.LinkedHashMap;
import java.util.List;
import java.util.Map;

/**
 * The document's sentences, each with a script that fails if the sentence is broken. A sentence is
 * quoted letter by letter: what no one quotes is told at the end, so that none is forgotten.
 */
final class Edges {
    private static final Path DOCUMENT = Path.of("../shared/DOC.md");
    private static final List<String> HEADS = List.of("DAYS AND PERSONS", "AGEING", "WRITING",
            "DEATHS", "PRINTING", "TEXTS", "HISTORY", "ERRORS");

    private final Map<String, StringBuilder> left = new LinkedHashMap<>();
    private final Map<String, String> sections = new LinkedHashMap<>();
    private String section;

    Edges() throws IOException {
        Map<String, StringBuilder> found = new LinkedHashMap<>();
        StringBuilder now = new StringBuilder();
        for (String line : Files.readString(DOCUMENT).split("\n")) {
            boolean isHead = line.startsWith("## ") || HEADS.contains(line.strip());
            if (isHead) {
                String head = line.replace("## ", "").replaceAll(":.*", "").strip();
                now = found.computeIfAbsent(head, key -> new StringBuilder());
            } else {
                now.append(line.strip()).append(' ');
            }
        }
        found.forEach((head, text) -> {
            if (HEADS.contains(head) || head.startsWith("Promise ")) {
                sections.put(head, text.toString().replaceAll(" +", " "));
                left.put(head, new StringBuilder(sections.get(head)));
            }
        });
    }

    /** The quotes that follow are of this section. */
    void in(String head) {
        section = head;
        Due.due("the document has " + head, sections.containsKey(head) ? 1 : 0, 1);
    }

    /** A sentence, or a part of one, and the calls that fail if it is broken. */
    void edge(String sentence, String calls) {
        quote(sentence);
        new Script(section + ": " + sentence, calls).run(false);
    }

    /** One that names what is only reached by more calls than an object is used for. */
    void longEdge(String sentence, String calls) {
        quote(sentence);
        new Script(section + ": " + sentence, calls).run(true);
    }

    /** What no call can break by itself, or what the scripts look at with each of their calls. */
    void plain(String... sentences) {
        for (String sentence : sentences) {
            quote(sentence);
        }
    }

    private void quote(String sentence) {
        String text = sections.getOrDefault(section, "");
        int at = text.indexOf(sentence);
        Due.due(section + " says: " + sentence, at >= 0 ? 1 : 0, 1);
        for (; at >= 0; at = text.indexOf(sentence, at + 1)) {
            for (int i = at; i < at + sentence.length(); i++) {
                left.get(section).setCharAt(i, '|');
            }
        }
    }

    /** Whatever letters are left were quoted by no one. */
    void nothingIsLeft() {
        left.forEach((head, text) -> {
            List<String> parts = new ArrayList<>();
            for (String part : text.toString().split("\\|+")) {
                if (part.matches(".*[A-Za-z0-9].*")) {
                    parts.add(part.strip());
                }
            }
            Due.due("no test in " + head, parts.toString(), "[]");
        });
    }
}
