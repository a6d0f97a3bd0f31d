import java.io.IOException;
import java.nio.file.Files;
import java.nio.file.Path;
import java.util.ArrayList;
import java.util.HashMap;
import java.util.LinkedHashSet;
import java.util.List;
import java.util.Map;
import java.util.Set;

/**
 * The document's own words. A test quotes the sentence that it holds the class to, so that a sentence
 * that is misread, or changed later, is noticed, and one without a test too.
 */
final class Document {
    private final Map<String, String> parts = new HashMap<>();
    private final List<String> refusals = new ArrayList<>();
    private final Set<String> quoted = new LinkedHashSet<>();
    private final Checks checks;

    Document(Checks checks) throws IOException {
        this.checks = checks;
        for (String part : Files.readString(Path.of("../shared/DOC.md")).split("\n## ")) {
            String heading = part.split("[:\n]")[0];
            parts.put(heading, part.replaceAll("\\s+", " "));
            for (String line : part.split("\n")) {
                if (line.startsWith("Throws ")) {
                    refusals.add(heading + ": " + line);
                }
            }
        }
    }

    /** Tells that the test which follows is that of a sentence under a heading. */
    void says(String heading, String sentence) {
        checks.holds(heading + " says: " + sentence, parts.getOrDefault(heading, "").contains(sentence));
        quoted.add(heading + ": " + sentence);
    }

    void saysAllRefusalsQuoted() {
        checks.equal("lines of the document that begin with Throws", refusals.size(), 59);
        for (String refusal : refusals) {
            checks.holds("a test quotes " + refusal, quoted.contains(refusal));
        }
    }
}
