import java.io.IOException;
import java.nio.file.Files;
import java.nio.file.Path;
import java.util.ArrayList;
import java.util.LinkedHashMap;
import java.util.List;
import java.util.Map;

/** The document's sentences, by section, so that it can be told which of them have no test. */
final class Document {
    private static final Path PATH = Path.of("../shared/DOC.md");

    private final Map<String, List<String>> sentences = new LinkedHashMap<>();
    private final StringBuilder paragraph = new StringBuilder();
    private String section = "";

    private Document() {
    }

    static Map<String, List<String>> sentences() {
        Document document = new Document();
        boolean code = false;
        for (String line : lines()) {
            if (line.startsWith("```")) {
                code = !code;
            } else if (!code) {
                document.take(line);
            }
        }
        document.endParagraph();
        return document.sentences;
    }

    private static List<String> lines() {
        try {
            return Files.readAllLines(PATH);
        } catch (IOException e) {
            throw new Error("the document cannot be read: " + PATH, e);
        }
    }

    private void take(String line) {
        if (line.startsWith("#")) {
            endParagraph();
            section = line.replaceFirst("^#+ ", "");
        } else if (line.isBlank() || line.matches("[A-Z ]+")) {
            endParagraph();
        } else {
            if (line.startsWith("- ")) {
                endParagraph();
            }
            paragraph.append(line.replaceFirst("^- ", "")).append(' ');
        }
    }

    /** A call's face ahead of its description is no sentence; a semicolon parts two of them. */
    private void endParagraph() {
        String text = paragraph.toString().replaceFirst("^`\\w+ ?\\w*\\([^`]*`: ", "").replace("`", "").trim();
        paragraph.setLength(0);
        if (!text.isEmpty()) {
            List<String> here = sentences.computeIfAbsent(section, name -> new ArrayList<>());
            here.addAll(List.of(text.split("(?<=[.;])\\s+")));
        }
    }
}
