import java.io.IOException;
import java.nio.charset.StandardCharsets;
import java.nio.file.Files;
import java.nio.file.Path;
import java.util.ArrayList;
import java.util.LinkedHashSet;
import java.util.List;
import java.util.Set;

/**
 * Tests of single sentences of the document, each quoted under the heading where it stands. A sentence ends
 * with a full stop, a semicolon or its line; the call that a promise begins with is no part of one.
 */
final class Sentences {
    /** The test of a sentence. */
    interface Test {
        void run(Check check);
    }

    private static final String GAP = ": ";

    private final Check check = new Check();
    private final Set<String> quoted = new LinkedHashSet<>();
    private String heading = "";

    /** The heading of the sentences from now on, as it stands in the document up to a colon. */
    void under(String text) {
        heading = text;
    }

    /** What goes wrong in the test is told with the sentence, whatever the test throws too. */
    void holds(String sentence, Test test) {
        String name = heading + GAP + sentence;
        if (!quoted.add(name)) {
            check.tell("two tests for " + name);
        }
        check.about("[" + name + "] ");
        try {
            test.run(check);
        } catch (RuntimeException e) {
            check.tell("threw " + e);
        }
        check.about("");
    }

    /** The sentence names no boundary case, or one that another sentence's test is about. */
    void needsNoTest(String... sentences) {
        for (String sentence : sentences) {
            quoted.add(heading + GAP + sentence);
        }
    }

    /** Every sentence that the document has must be quoted, and every quoted one must stand in it. */
    void compareWith(Path document) throws IOException {
        Set<String> there = sentencesOf(Files.readAllLines(document, StandardCharsets.UTF_8));
        for (String sentence : there) {
            check.yes("has a test: " + sentence, quoted.contains(sentence));
        }
        for (String sentence : quoted) {
            check.yes("stands in the document: " + sentence, there.contains(sentence));
        }
    }

    void end() {
        check.end();
    }

    private static Set<String> sentencesOf(List<String> lines) {
        Set<String> all = new LinkedHashSet<>();
        String under = "";
        for (String line : lines) {
            if (line.startsWith("#")) {
                under = headingOf(line);
            } else if (under.equals("What it is") || under.equals("Terms") || under.startsWith("Promise")) {
                for (String sentence : parted(line)) {
                    all.add(under + GAP + sentence);
                }
            }
        }
        return all;
    }

    private static String headingOf(String line) {
        String text = line.substring(line.indexOf(' ') + 1);
        int colon = text.indexOf(':');
        return colon < 0 ? text : text.substring(0, colon);
    }

    private static List<String> parted(String line) {
        String text = line;
        int colon = line.indexOf("`" + GAP);
        if (line.startsWith("`") && colon > 0) {
            text = line.substring(colon + 1 + GAP.length());
        }
        List<String> parts = new ArrayList<>();
        for (String part : text.split("(?<=[.;]) ")) {
            if (!part.isEmpty()) {
                parts.add(part);
            }
        }
        return parts;
    }
}
