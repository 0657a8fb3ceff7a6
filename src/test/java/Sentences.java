import java.io.IOException;
import java.nio.file.Files;
import java.nio.file.Path;
import java.util.LinkedHashMap;
import java.util.Map;

/**
 * The sentences of the document. Each is claimed by the test that it has of its own, or as one that names
 * nothing to test; what nobody has claimed at the end is wrong, and so is a claim that the document doesn't say.
 */
final class Sentences {

    private static final Path DOCUMENT = Path.of("../shared/DOC.md");
    private static final String CLAIMED = " ~ ";

    private final Checks checks;
    private final Map<String, String> unclaimed = new LinkedHashMap<>();
    private String section = "";

    Sentences(Checks checks) throws IOException {
        this.checks = checks;
        for (String part : Files.readString(DOCUMENT).split("(?m)^##? ")) {
            int behindHeading = Math.max(part.indexOf('\n'), 0);
            unclaimed.put(part.substring(0, behindHeading), part.substring(behindHeading).replaceAll("\\s+", " "));
        }
    }

    /** The sentences that follow stand in this section. */
    void in(String heading) {
        section = heading;
    }

    /** The checks that follow are the test of this sentence. */
    void says(String sentence) {
        checks.about(section + ": " + sentence);
        claim(sentence);
    }

    void namesNothingToTest(String... sentences) {
        for (String sentence : sentences) {
            claim(sentence);
        }
    }

    /** A section that another test is about. */
    void leaveOut(String heading) {
        checks.holds("the document has a section \"" + heading + "\"", unclaimed.remove(heading) != null);
    }

    void close() {
        checks.about("all sentences");
        unclaimed.forEach((heading, words) -> checks.same("the sentences without a test under \"" + heading + "\"",
                words.replaceAll("[^\\p{Alnum}]*~[^\\p{Alnum}]*", " ").strip(), ""));
    }

    private void claim(String sentence) {
        String words = unclaimed.getOrDefault(section, "");
        int at = words.indexOf(sentence);
        checks.holds("the document says under \"" + section + "\": " + sentence, at >= 0);
        if (at >= 0) {
            unclaimed.put(section, words.substring(0, at) + CLAIMED + words.substring(at + sentence.length()));
        }
    }
}
