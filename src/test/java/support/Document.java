import java.io.IOException;
import java.nio.charset.StandardCharsets;
import java.nio.file.Files;
import java.nio.file.Path;
import java.util.ArrayList;
import java.util.List;

/** ../shared/DOC.md, cut into its sentences, and these at each semicolon. */
final class Document {
    private static final Path PATH = Path.of("../shared/DOC.md");

    /** A part of a sentence. A section is named by its heading, up to a colon: "Promise 2". */
    record Part(String section, String sentence, String text) {
    }

    private Document() {
    }

    /** The parts that promise something: those up to the section "Not promised", but for the written-out face. */
    static List<Part> parts() throws IOException {
        List<Part> parts = new ArrayList<>();
        String section = "";
        boolean isCode = false;
        for (String line : Files.readAllLines(PATH, StandardCharsets.UTF_8)) {
            if (line.startsWith("```")) {
                isCode = !isCode;
            } else if (line.startsWith("#")) {
                section = line.replaceFirst("^#+ ", "").replaceFirst(":.*", "");
            } else if (!isCode && !line.isBlank() && !section.equals("Not promised")) {
                addLine(parts, section, line);
            }
        }
        return parts;
    }

    private static void addLine(List<Part> parts, String section, String line) {
        String text = line.replaceFirst("^(- |\\d\\. )", "");
        for (String sentence : text.split("(?<=[.]|[.][)]) ")) {
            for (String part : sentence.split("; ")) {
                parts.add(new Part(section, sentence, part));
            }
        }
    }
}
