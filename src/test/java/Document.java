import java.io.IOException;
import java.nio.file.Files;
import java.nio.file.Path;
import java.util.ArrayList;
import java.util.LinkedHashMap;
import java.util.List;
import java.util.Map;

/** The sentences of ../shared/DOC.md, each below the promise or the section in which it stands. */
final class Document {
    private static final Path PLACE = Path.of("..", "shared", "DOC.md");
    /** The sections whose sentences hold for all promises. */
    private static final List<String> SECTIONS = List.of("Terms", "Structures", "Sensors", "Specifications",
            "Sweeps and shocks", "Fatigue", "Evidence", "Exceptions");

    private final Map<String, List<String>> sentences = new LinkedHashMap<>();

    Document() throws IOException {
        String heading = "";
        StringBuilder paragraph = new StringBuilder();
        for (String line : Files.readAllLines(PLACE)) {
            String next = headingOf(line);
            if (next != null || line.isBlank() || line.startsWith("- `")) {
                keep(heading, paragraph);
            }
            if (next != null) {
                heading = next;
            } else if (!line.isBlank()) {
                paragraph.append(paragraph.isEmpty() ? "" : " ").append(line.strip());
            }
        }
        keep(heading, paragraph);
    }

    /** The heading that a line is, or null. */
    private static String headingOf(String line) {
        if (line.startsWith("## Promise ")) {
            return line.substring(3, line.indexOf(':'));
        }
        if (line.startsWith("#")) {
            return line.replaceAll("^#+ ", "");
        }
        if (line.startsWith("<h2>")) {
            return line.replaceAll("</?h2>", "");
        }
        return line.startsWith("<p>") ? "Examples" : null;
    }

    private void keep(String heading, StringBuilder paragraph) {
        String text = paragraph.toString().replaceAll("\\s+", " ").strip();
        paragraph.setLength(0);
        if (!text.isEmpty()) {
            List<String> all = sentences.computeIfAbsent(heading, unknown -> new ArrayList<>());
            all.addAll(List.of(text.split("(?<=[.]) (?=[A-Z])")));
        }
    }

    /** The sentence below a heading in which some words stand, or null. */
    String sentenceWith(String heading, String words) {
        for (String sentence : sentences.getOrDefault(heading, List.of())) {
            if (sentence.contains(words)) {
                return sentence;
            }
        }
        return null;
    }

    /** What a test must name: each sentence of the sections, and of the promises each that throws or has a number. */
    List<String> needed() {
        List<String> all = new ArrayList<>();
        for (Map.Entry<String, List<String>> below : sentences.entrySet()) {
            String heading = below.getKey();
            for (String sentence : below.getValue()) {
                boolean edge = sentence.startsWith("Throws ") || sentence.matches(".*[0-9].*");
                if (SECTIONS.contains(heading) || heading.startsWith("Promise ") && edge) {
                    all.add(named(heading, sentence));
                }
            }
        }
        return all;
    }

    static String named(String heading, String sentence) {
        return heading + ", \"" + sentence + "\"";
    }
}
