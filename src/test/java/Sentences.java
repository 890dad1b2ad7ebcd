import java.io.IOException;
import java.nio.file.Files;
import java.nio.file.Path;
import java.nio.file.Paths;
import java.util.ArrayList;
import java.util.Arrays;
import java.util.LinkedHashMap;
import java.util.LinkedHashSet;
import java.util.List;
import java.util.Map;
import java.util.Set;

/**
 * The document's sentences, each held by a test of its own: a test quotes the words that it holds,
 * and these words must stand in the section that is told. So a line that no test quotes, or a
 * quotation that the document has no more, comes to light.
 */
final class Sentences {
    private static final Path DOCUMENT = Paths.get("../shared/DOC.md");
    private static final Set<String> TOLD_ELSEWHERE = Set.of(
            "RareFaults", "What it is", "The public face", "Terms", "Not promised");

    private final Checks checks;
    private final Map<String, List<String>> linesOfSections = new LinkedHashMap<>();
    private final Set<String> quoted = new LinkedHashSet<>();
    private String section = "";

    Sentences(Checks checks) throws IOException {
        this.checks = checks;
        if (Files.isReadable(DOCUMENT)) {
            readDocument();
        } else {
            System.out.println("no " + DOCUMENT + ": quotations are not compared with it");
        }
    }

    private void readDocument() throws IOException {
        List<String> lines = new ArrayList<>();
        for (String line : Files.readAllLines(DOCUMENT)) {
            if (line.startsWith("#")) {
                lines = new ArrayList<>();
                linesOfSections.put(line.replaceFirst("#+ ", ""), lines);
            } else if (!line.isBlank() && !line.startsWith("Ahead of the calls")) {
                lines.add(line);
            }
        }
    }

    /** The tests that follow quote this section. */
    void in(String heading) {
        section = heading;
        if (!linesOfSections.isEmpty()) {
            checks.due("the document has the section " + heading, true,
                    linesOfSections.containsKey(heading));
        }
    }

    /** Runs the test of a sentence; it must check something. */
    void hold(String words, Runnable test) {
        quote(words);
        int made = checks.made();
        int wrong = checks.wrong();
        try {
            test.run();
        } catch (RuntimeException e) {
            checks.due(e.getStackTrace()[0] + " throws", "nothing", e.getClass().getSimpleName());
        }
        checks.due("checks of: " + words, true, checks.made() > made);
        if (checks.wrong() > wrong) {
            System.out.println("  broken, in " + section + ": " + words);
        }
    }

    private void quote(String words) {
        if (linesOfSections.isEmpty()) {
            return;
        }
        boolean isThere = false;
        for (String line : linesOfSections.getOrDefault(section, Arrays.asList())) {
            if (line.contains(words)) {
                quoted.add(section + ": " + line);
                isThere = true;
            }
        }
        checks.due(section + " has the words: " + words, true, isThere);
    }

    /** Checks that each line of each section is quoted by a test. */
    void dueAllQuoted() {
        for (Map.Entry<String, List<String>> entry : linesOfSections.entrySet()) {
            if (TOLD_ELSEWHERE.contains(entry.getKey())) {
                continue;
            }
            for (String line : entry.getValue()) {
                String place = entry.getKey() + ": " + line;
                checks.due("a test of " + place, true, quoted.contains(place));
            }
        }
    }
}
