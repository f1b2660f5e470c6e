import java.io.IOException;
import java.nio.file.Files;
import java.nio.file.Path;
import java.util.Set;
import java.util.TreeSet;

/**
 * Tests that are told by the document's own sentences: each sentence must stand in ../shared/DOC.md
 * under its heading, word for word, and its test must ask something.
 */
final class Sentences {
    private final Check check;
    private final String[] document;
    private final Set<String> headings = new TreeSet<>();

    Sentences(Check check) throws IOException {
        this.check = check;
        document = Files.readString(Path.of("../shared/DOC.md")).split("\n(?=## |== )");
    }

    /** Under "Promise 5", "Description", "1. Numbers" and their like. */
    void hold(String heading, String sentence, Runnable test) {
        headings.add(heading);
        check.about(heading + ", " + sentence);
        check.due("whether it stands there", section(heading).contains(sentence), true);
        int before = check.asked();
        try {
            test.run();
        } catch (RuntimeException e) {
            check.due("the run of calls", e.toString(), "no exception");
        }
        check.due("whether the test asks", check.asked() > before, true);
        check.about("");
    }

    void hold(int promise, String sentence, Runnable test) {
        hold("Promise " + promise, sentence, test);
    }

    /** Each of these promises must have had a sentence. */
    void end(int... promises) {
        for (int promise : promises) {
            check.due("whether promise " + promise + " had a sentence",
                    headings.contains("Promise " + promise), true);
        }
        check.end();
    }

    private String section(String heading) {
        for (String section : document) {
            String name = section.lines().findFirst().orElse("").substring(section.isEmpty() ? 0 : 2).strip();
            if (name.equals(heading) || name.startsWith(heading + ":")) {
                return section;
            }
        }
        return "";
    }
}
