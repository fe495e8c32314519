import java.io.IOException;
import java.nio.file.Files;
import java.nio.file.Path;
import java.util.ArrayList;
import java.util.List;

/**
 * The document, cut into the sentences that can name a boundary case. A test tells the words that it is
 * about; in the end each sentence must have been told of, and each telling must have led to a check.
 */
final class Book {
    /** The number under which the sentences ahead of the promises are told. */
    static final int TERMS = 0;

    private static final Path DOCUMENT = Path.of("../shared/DOC.md");

    /** What no call can show: that all numbers are whole lies in their types. */
    private static final String NOTHING_TO_CALL = "All numbers are whole.";

    private static final List<String> TOLD = new ArrayList<>();
    private static List<String> rows = new ArrayList<>();
    private static int checksBefore = 0;

    private Book() {
    }

    static void open() throws IOException {
        int promise = TERMS;
        boolean begun = false;
        for (String line : Files.readAllLines(DOCUMENT)) {
            if (line.startsWith("## Promise ")) {
                promise = Integer.parseInt(line.substring(11, line.indexOf(':')));
            }
            begun = begun || line.equals("## Terms");
            if (line.startsWith("The constants:")) {
                begun = false;
            }
            if (promise > TERMS && isRowOfPromise(line)) {
                rows.add(promise + "|" + line);
            } else if (promise == TERMS && (begun || line.startsWith("An object is used"))
                    && line.endsWith(".")) {
                for (String sentence : line.split("(?<=\\.) ")) {
                    rows.add(TERMS + "|" + sentence);
                }
            }
        }
        rows.remove(TERMS + "|" + NOTHING_TO_CALL);
    }

    private static boolean isRowOfPromise(String line) {
        return line.startsWith("`") || line.startsWith("- `") || line.startsWith("Returns ")
                || line.startsWith("Throws ");
    }

    /** The checks that follow are about these words of the promise. */
    static void says(int promise, String words) {
        closeLast();
        Check.about(promise + ": " + words);
        boolean found = false;
        for (String row : rows) {
            found |= row.startsWith(promise + "|") && row.contains(words);
        }
        Check.due("stands in the document", found, true);
        TOLD.add(promise + "|" + words);
        checksBefore = Check.made();
    }

    private static void closeLast() {
        if (!TOLD.isEmpty()) {
            Check.due("has checks", Check.made() > checksBefore, true);
        }
    }

    /** Each row of the document holds words that a test was about. */
    static void close() {
        closeLast();
        Check.about("");
        for (String row : rows) {
            int bar = row.indexOf('|');
            boolean found = false;
            for (String told : TOLD) {
                found |= told.startsWith(row.substring(0, bar + 1))
                        && row.contains(told.substring(bar + 1));
            }
            Check.due("a test of " + row, found, true);
        }
    }
}
