import java.util.ArrayList;
import java.util.HashMap;
import java.util.HashSet;
import java.util.List;
import java.util.Map;
import java.util.Set;
import java.util.function.Consumer;

/** The document's sentences that name a boundary case, each with its test; it knows which of them have none. */
final class Edges {
    private final Document document = new Document();
    private final Due due = new Due("EdgesTest");
    private final Map<String, Set<String>> tested = new HashMap<>();
    private String heading = "";

    /** The words that follow stand under this heading. */
    void under(String heading) {
        this.heading = heading;
    }

    /** These words stand in the document, and this test fails if they are broken. */
    void of(String words, Consumer<Due> test) {
        List<String> found = sentencesWith(words);
        due.under(heading + ", \"" + words + "\"");
        due.is("the words stand in the document", document.isEmpty() || !found.isEmpty(), true);
        tested.computeIfAbsent(heading, any -> new HashSet<>()).addAll(found);
        int before = due.asked();
        try {
            test.accept(due);
        } catch (RuntimeException e) {
            due.same("the test", "ended with " + e, "an end");
        }
        due.is("the test asks something", due.asked() > before, true);
    }

    /** These words name no boundary case. */
    void names(String none) {
        tested.computeIfAbsent(heading, any -> new HashSet<>()).addAll(sentencesWith(none));
    }

    private List<String> sentencesWith(String words) {
        List<String> found = new ArrayList<>();
        for (String sentence : document.under(heading)) {
            if (sentence.contains(words)) {
                found.add(sentence);
            }
        }
        return found;
    }

    void end() {
        for (String heading : document.headings()) {
            due.under(heading);
            for (String sentence : document.under(heading)) {
                due.is("there is a test of \"" + sentence + "\"", tested.getOrDefault(heading, Set.of()).contains(sentence), true);
            }
        }
        due.end();
    }
}
