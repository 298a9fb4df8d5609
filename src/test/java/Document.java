import java.io.IOException;
import java.io.UncheckedIOException;
import java.nio.file.Files;
import java.nio.file.Path;
import java.util.ArrayList;
import java.util.LinkedHashMap;
import java.util.List;
import java.util.Map;

/** What ../shared/DOC.md says under each heading: the parts of its sentences, which end with a full stop or a semicolon. */
final class Document {
    /** For who has only the project: the calls of the tests are made, but no words are looked for in the document. */
    static final boolean IS_LEFT_OUT = Boolean.getBoolean("alone");
    private static final Path PAGE = Path.of("../shared/DOC.md");

    private final Map<String, List<String>> sentences = new LinkedHashMap<>();
    private final List<String> blocks = new ArrayList<>();
    private final StringBuilder paragraph = new StringBuilder();
    private String heading = "";

    Document() {
        boolean isBlock = false;
        for (String line : lines()) {
            if (line.startsWith("```")) {
                take(isBlock);
                isBlock = !isBlock;
            } else if (line.matches("## .*|<h2>.*|<p>.*")) {
                take(false);
                heading = line.replaceAll("## |<[^>]*>", "").replaceAll(":.*", "");
            } else {
                if (line.isBlank() || line.startsWith("- ")) {
                    take(false);
                }
                paragraph.append(line).append(' ');
            }
        }
        take(false);
    }

    private static List<String> lines() {
        try {
            return IS_LEFT_OUT ? List.of() : Files.readAllLines(PAGE);
        } catch (IOException unreadable) {
            throw new UncheckedIOException(unreadable);
        }
    }

    private void take(boolean isBlock) {
        String text = paragraph.toString().strip().replaceAll("\\s+", " ");
        paragraph.setLength(0);
        if (isBlock) {
            blocks.add(text);
            return;
        }
        // A promise begins with the method's own line, which RulesTest compares with the face.
        String said = text.replaceFirst("^`[^`]*\\([^`]*`: ", "");
        for (String part : said.split("(?<=[.;])\\s+")) {
            if (!part.isBlank()) {
                sentences.computeIfAbsent(heading, unused -> new ArrayList<>()).add(part);
            }
        }
    }

    List<String> headings() {
        return new ArrayList<>(sentences.keySet());
    }

    List<String> sentencesUnder(String title) {
        return sentences.getOrDefault(title, List.of());
    }

    String face() {
        return blocks.get(0);
    }

    List<String> examples() {
        return IS_LEFT_OUT ? List.of() : blocks.subList(1, blocks.size());
    }
}
