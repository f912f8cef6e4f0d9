import java.io.IOException;
import java.io.UncheckedIOException;
import java.nio.charset.StandardCharsets;
import java.nio.file.Files;
import java.nio.file.Path;
import java.util.ArrayList;
import java.util.List;
import java.util.Set;
import java.util.TreeSet;

/** Ties each sentence of the document to the test of its own that SENTENCES.md lists. */
final class Sentences {
    private static final Path DOCUMENT = Path.of("../shared/DOC.md");
    private static final Path LIST = Path.of("SENTENCES.md");

    private static final Set<String> told = new TreeSet<>();
    private static String running = "";

    private Sentences() {
    }

    /** Says that the test method now running is that of these words, which stand in that section. */
    static void of(String where, String words) {
        String test = runningTest();
        running = test.substring(0, test.indexOf('.'));
        Check.holds(where + " does not say: " + words, section(where).contains(words));
        told.add("| " + where + " | " + words + " | " + test + " |");
    }

    /** The sentences that were told and those that are listed for the test now running are the same ones. */
    static void end() {
        Set<String> listed = new TreeSet<>();
        for (String row : rows()) {
            if (row.contains("| " + running + ".")) {
                listed.add(row);
            }
        }
        for (String row : told) {
            Check.holds(LIST + " lacks: " + row, listed.contains(row));
        }
        for (String row : listed) {
            Check.holds(LIST + " lists what no test tells: " + row, told.contains(row));
        }
        Check.end();
    }

    /** The rows of the list; those of other tables in it have two cells. */
    static List<String> rows() {
        List<String> rows = new ArrayList<>();
        for (String line : read(LIST).split("\n")) {
            if (line.startsWith("| ") && line.split(" \\| ").length > 2 && !line.startsWith("| Where |")) {
                rows.add(line);
            }
        }
        return rows;
    }

    static String document() {
        return read(DOCUMENT);
    }

    /** The names of the document's sections, those of promises without what they are about. */
    static List<String> sections() {
        List<String> names = new ArrayList<>();
        for (String line : document().split("\n")) {
            if (line.startsWith("## ")) {
                names.add(line.substring(3).replaceAll("(Promise \\d+):.*", "$1"));
            }
        }
        return names;
    }

    /** A section of the document, with single blanks and without its name and the marks of its blocks. */
    static String section(String name) {
        String text = "\n" + document();
        int at = text.indexOf("\n## " + name + (name.startsWith("Promise") ? ":" : "\n"));
        if (at < 0) {
            return "";
        }
        int begin = text.indexOf('\n', at + 1);
        int end = text.indexOf("\n## ", begin);
        String inside = text.substring(begin, end < 0 ? text.length() : end);
        return inside.replaceAll("```[a-z]*", " ").replaceAll("\\s+", " ");
    }

    private static String read(Path path) {
        try {
            return Files.readString(path, StandardCharsets.UTF_8);
        } catch (IOException e) {
            throw new UncheckedIOException(e);
        }
    }

    /** The method that main calls, by its class and name. */
    private static String runningTest() {
        StackTraceElement[] trace = new Throwable().getStackTrace();
        for (int i = 1; i < trace.length; i++) {
            if (trace[i].getMethodName().equals("main")) {
                return trace[i - 1].getClassName() + "." + trace[i - 1].getMethodName();
            }
        }
        throw new IllegalStateException("a sentence is told outside a test");
    }
}
