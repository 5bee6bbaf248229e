import java.io.IOException;
import java.nio.file.Files;
import java.nio.file.Path;
import java.util.ArrayList;
import java.util.LinkedHashMap;
import java.util.List;
import java.util.Map;

/** The sentences of ../shared/DOC.md by their headings, and the face; none without it. The tests run in the checkout's root. */
final class Document {
    private final Map<String, List<String>> sections = new LinkedHashMap<>();
    private final List<String> face = new ArrayList<>();

    Document() {
        String heading = "";
        boolean code = false;
        for (String line : lines()) {
            if (line.startsWith("```")) {
                code = !code;
            } else if (line.startsWith("#")) {
                heading = line.replaceFirst("^#+ ", "");
                sections.put(heading, new ArrayList<>());
            } else if (code) {
                face.add(line);
            } else if (!line.isBlank()) {
                addSentences(sections.get(heading), line);
            }
        }
    }

    private static List<String> lines() {
        try {
            return Files.readAllLines(Path.of("../shared/DOC.md"));
        } catch (IOException e) {
            System.out.println("../shared/DOC.md can't be read: the tests go without what they look up in it");
            return List.of();
        }
    }

    boolean isEmpty() {
        return sections.isEmpty();
    }

    /** The lines of the public face, which are all the code that stands there. */
    List<String> face() {
        return face;
    }

    private static void addSentences(List<String> section, String line) {
        for (String sentence : line.split("(?<=\\.) ")) {
            section.add(sentence);
        }
    }

    /** The sentences of the section with this heading; none if there is no such section. */
    List<String> under(String heading) {
        return sections.getOrDefault(heading, List.of());
    }

    List<String> headings() {
        return new ArrayList<>(sections.keySet());
    }
}
