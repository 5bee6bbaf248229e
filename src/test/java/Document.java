import java.io.IOException;
import java.nio.file.Files;
import java.nio.file.Path;
import java.util.ArrayList;
import java.util.LinkedHashMap;
import java.util.List;
import java.util.Map;

/** The sentences of ../shared/DOC.md by their headings; none without it. The tests run in the checkout's root. */
final class Document {
    private final Map<String, List<String>> sections = new LinkedHashMap<>();

    Document() {
        String heading = "";
        boolean code = false;
        for (String line : lines()) {
            if (line.startsWith("```")) {
                code = !code;
            } else if (line.startsWith("#")) {
                heading = line.replaceFirst("^#+ ", "");
                sections.put(heading, new ArrayList<>());
            } else if (!code && !line.isBlank()) {
                addSentences(sections.get(heading), line);
            }
        }
    }

    private static List<String> lines() {
        try {
            return Files.readAllLines(Path.of("../shared/DOC.md"));
        } catch (IOException e) {
            System.out.println("../shared/DOC.md can't be read: whether each of its sentences has a test isn't looked at");
            return List.of();
        }
    }

    boolean isEmpty() {
        return sections.isEmpty();
    }

    private static void addSentences(List<String> section, String line) {
        for (String sentence : line.split("(?<=\\.) ")) {
            section.add(sentence);
        }
    }

    /** The sentences of the section with this heading; none if there is no such section. */
    List<String> under(String heading) {
        return sections.getOrDefault(heading, List.of());
    }

    List<String> headings() {
        return new ArrayList<>(sections.keySet());
    }
}
