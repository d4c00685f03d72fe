import java.io.IOException;
import java.nio.file.Files;
import java.nio.file.Path;
import java.util.ArrayList;
import java.util.LinkedHashMap;
import java.util.List;
import java.util.Map;

/** The sentences of the document, by the sections in which they stand. */
final class Document {
    private final Map<String, List<String>> sentences = new LinkedHashMap<>();

    static Document read(Path file) throws IOException {
        Document document = new Document();
        String section = "";
        StringBuilder paragraph = new StringBuilder();
        for (String line : Files.readString(file).split("\n")) {
            boolean heads = line.startsWith("#") || line.matches("[A-Z]+");
            if (heads || line.isBlank() || line.startsWith("- ")) {
                document.add(section, paragraph.toString());
                paragraph.setLength(0);
            }
            if (heads) {
                section = line.replaceAll("^#+ |:.*", "");
            } else {
                paragraph.append(' ').append(line.startsWith("- ") ? line.substring(2) : line);
            }
        }
        document.add(section, paragraph.toString());
        return document;
    }

    private void add(String section, String paragraph) {
        String text = paragraph.strip().replaceAll("\\s+", " ");
        if (!text.isEmpty()) {
            sentences.computeIfAbsent(section, s -> new ArrayList<>())
                    .addAll(List.of(text.split("(?<=\\.) (?=[A-Z])")));
        }
    }

    /** The sections in their order. */
    List<String> sections() {
        return List.copyOf(sentences.keySet());
    }

    List<String> sentencesOf(String section) {
        return sentences.getOrDefault(section, List.of());
    }
}
