import java.io.IOException;
import java.nio.charset.StandardCharsets;
import java.nio.file.Files;
import java.nio.file.Path;
import java.util.ArrayList;
import java.util.Collections;
import java.util.LinkedHashMap;
import java.util.List;
import java.util.Map;

/** The sentences of the document: under a promise each line is one, elsewhere they end with a point. */
final class Document {
    private static final String SENTENCE_END = "(?<=[.)]) (?=[A-Z(])";
    private static final String HEADING = "## ";

    private final Map<String, List<String>> sections = new LinkedHashMap<>();

    Document(Path file) throws IOException {
        String section = "";
        for (String line : Files.readAllLines(file, StandardCharsets.UTF_8)) {
            if (line.startsWith(HEADING)) {
                section = line.substring(HEADING.length()).split(":")[0];
                sections.put(section, new ArrayList<>());
            } else if (!line.isBlank() && !section.isEmpty()) {
                sections.get(section).addAll(sentencesOf(section, line));
            }
        }
    }

    private static List<String> sentencesOf(String section, String line) {
        if (!section.startsWith("Promise ")) {
            return List.of(line.split(SENTENCE_END));
        }
        int signatureEnd = line.startsWith("`") ? line.indexOf("`: ") : -1;
        return List.of(signatureEnd < 0 ? line : line.substring(signatureEnd + 3));
    }

    List<String> under(String heading) {
        return sections.getOrDefault(heading, Collections.emptyList());
    }
}
