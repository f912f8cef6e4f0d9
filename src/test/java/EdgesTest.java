import java.nio.file.Files;
import java.nio.file.Path;
import java.util.ArrayList;
import java.util.List;

/**
 * EDGES.md lists a test for each range, each set of letters and each exception of the promises, and for each sentence of
 * the terms. That the tests it names are run, and are of those words, the tests themselves check.
 */
public final class EdgesTest {
    private static final int PROMISES = 45;

    public static void main(String[] args) {
        ranges();
        exceptions();
        terms();
        tests();
        Check.end();
    }

    private static boolean isListed(String where, String words) {
        for (String row : Edges.rows()) {
            String[] cells = row.split(" \\| ");
            if (cells[0].equals("| " + where) && words.contains(cells[1])) {
                return true;
            }
        }
        return false;
    }

    /** The lines of a promise that begin so, each with what stands on it. */
    private static List<String> lines(int promise, String begin) {
        List<String> lines = new ArrayList<>();
        boolean inside = false;
        for (String line : Edges.document().split("\n")) {
            if (line.startsWith("## ")) {
                inside = line.startsWith("## Promise " + promise + ":");
            }
            if (inside && line.startsWith(begin)) {
                lines.add(line.trim());
            }
        }
        return lines;
    }

    private static void ranges() {
        int found = 0;
        for (int promise = 1; promise <= PROMISES; promise++) {
            for (String line : lines(promise, "- `")) {
                if (line.matches(".*(-?\\d+ to \\d+|'.'|any number|25 times|or the same).*")) {
                    found++;
                    Check.holds("no test is listed: " + promise + ": " + line, isListed("Promise " + promise, line));
                }
            }
        }
        Check.holds("ranges were found, " + found, found >= 49);
    }

    private static void exceptions() {
        int found = 0;
        for (int promise = 1; promise <= PROMISES; promise++) {
            for (String line : lines(promise, "Throws ")) {
                found++;
                Check.holds("no test is listed: " + promise + ": " + line, isListed("Promise " + promise, line));
            }
        }
        Check.holds("exceptions were found, " + found, found > 50);
    }

    /** What comes ahead of the field is the story, and what comes behind the exceptions are the examples. */
    private static void terms() {
        String terms = Edges.section("Terms");
        int from = terms.indexOf("<p>The field.");
        int to = terms.indexOf("Examples:");
        Check.holds("the terms begin and end", from >= 0 && from < to);
        for (String sentence : terms.substring(from, to).split("(?<=\\.) ")) {
            boolean isHeading = sentence.matches("(<p>)?(The )?[A-Za-z]+\\.");
            Check.holds("no test is listed: " + sentence, isHeading || isListed("Terms", sentence));
        }
    }

    private static void tests() {
        for (String row : Edges.rows()) {
            String[] cells = row.split(" \\| ");
            Check.same("cells of " + row, cells.length, 3);
            String test = cells[cells.length - 1];
            String file = test.substring(0, Math.max(0, test.indexOf('.')));
            Check.holds("there is no " + test, Files.isRegularFile(Path.of("src/test/java/" + file + ".java")));
        }
    }
}
