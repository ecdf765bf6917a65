import java.io.IOException;
import java.nio.file.Files;
import java.nio.file.Path;
import java.util.LinkedHashMap;
import java.util.Map;

/** The sections of the document, of which each sentence is to have a test that quotes it. */
final class Sentences {
    private static final Path DOCUMENT = Path.of("../shared/DOC.md");
    private final boolean isThere;
    private final Map<String, String> untested = new LinkedHashMap<>();
    private final Map<String, String> tested = new LinkedHashMap<>();
    private String section = "";

    Sentences() throws IOException {
        isThere = Files.exists(DOCUMENT);
        if (!isThere) {
            System.out.println("there is no " + DOCUMENT + ": what the tests quote is not looked up");
            return;
        }
        String heading = "";
        for (String line : Files.readString(DOCUMENT).split("\n")) {
            if (line.startsWith("#")) {
                heading = line.replaceFirst("^#+ ", "").replaceFirst(":.*", "");
            } else if (!line.startsWith("Ahead of the calls")) {
                // The signature that stands before what a promise says is FaceTest's.
                untested.merge(heading, line.replaceFirst("^`[^`]*\\([^`]*`: ", ""), (all, next) -> all + "\n" + next);
            }
        }
    }

    void section(String heading) {
        section = heading;
        Checks.about(heading);
        tested.put(heading, untested.getOrDefault(heading, ""));
        if (isThere && !untested.containsKey(heading)) {
            Checks.fault("the document has no such section");
        }
    }

    void holds(String sentence, Runnable test) {
        Checks.about(section + ", \"" + sentence + "\"");
        String rest = tested.get(section);
        int found = rest.indexOf(sentence);
        if (isThere && found < 0) {
            Checks.fault("the document does not say so, or a test before this one quotes it");
        } else if (isThere) {
            tested.put(section, rest.substring(0, found) + "\n" + rest.substring(found + sentence.length()));
        }
        try {
            test.run();
        } catch (RuntimeException e) {
            Checks.fault("threw " + e);
        }
    }

    /** All sections whose headings start like this were tested, and nothing of them is left. */
    void areAllTested(String start) {
        for (String heading : untested.keySet()) {
            if (heading.startsWith(start)) {
                Checks.about(heading);
                String left = tested.getOrDefault(heading, untested.get(heading)).replaceAll("[^A-Za-z0-9]+", " ").trim();
                if (!left.isEmpty()) {
                    Checks.fault("no test quotes: " + left);
                }
            }
        }
    }
}
