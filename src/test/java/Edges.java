import java.io.IOException;
import java.nio.file.Files;
import java.nio.file.Path;
import java.util.HashSet;
import java.util.Set;

/**
 * Runs tests of single sentences. Each sentence is quoted as the document has it, under its
 * heading, so that a reader finds which sentence lacks a test; the lines that name exceptions are
 * looked up here: one without a test fails.
 */
final class Edges {
    interface Test {
        void run();
    }

    private static final Path DOCUMENT = Path.of("../shared/DOC.md");

    private final String name;
    private final String document;
    private final Set<String> quoted = new HashSet<>();
    private String heading = "";
    private int sentences = 0;

    Edges(String name) {
        this.name = name;
        this.document = read();
    }

    private static String read() {
        try {
            return Files.exists(DOCUMENT) ? Files.readString(DOCUMENT) : "";
        } catch (IOException e) {
            return "";
        }
    }

    /** The sentences that follow stand under this heading of the document. */
    void under(String nextHeading) {
        endHeading();
        heading = nextHeading;
    }

    void edge(String sentence, Test test) {
        sentences++;
        quoted.add(sentence);
        if (!document.isEmpty()) {
            Check.due("'" + sentence + "' stands under '" + heading + "'",
                    inOneLine(section()).contains(inOneLine(sentence)), true);
        }
        int wrongBefore = Check.wrong();
        int checkedBefore = Check.checked();
        Check.due("'" + sentence + "' ended", ending(test), "by itself");
        Check.due("'" + sentence + "' is looked at", Check.checked() > checkedBefore + 1, true);
        if (Check.wrong() > wrongBefore) {
            System.out.println("does not hold: " + heading + ": " + sentence);
        }
    }

    /** A call that throws where none is due must not keep the other sentences from their tests. */
    private static String ending(Test test) {
        try {
            test.run();
            return "by itself";
        } catch (RuntimeException e) {
            return "by " + e;
        }
    }

    private String section() {
        int start = document.indexOf("\n## " + heading + "\n");
        if (start < 0) {
            return "";
        }
        int end = document.indexOf("\n## ", start + 1);
        return document.substring(start, end < 0 ? document.length() : end);
    }

    private static String inOneLine(String text) {
        return text.replaceAll("\\s+", " ");
    }

    private void endHeading() {
        for (String line : section().split("\n")) {
            if (line.startsWith("Throws ")) {
                Check.due("a test of: " + line, quoted.contains(line), true);
            }
        }
        quoted.clear();
    }

    void finish() {
        endHeading();
        if (document.isEmpty()) {
            System.out.println(name + ": no document, so no sentence was looked up in it");
        }
        System.out.println(name + ": " + sentences + " sentences");
        Check.finish(name);
    }
}
