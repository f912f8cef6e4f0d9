import java.nio.file.Files;
import java.nio.file.Path;
import java.util.Arrays;

/**
 * SENTENCES.md lists a test for each sentence of the document from its first line to its last, and for each part of
 * one. That the tests it names are run, and are of those words, the tests themselves check.
 */
public final class SentencesTest {
    private static final int SECTIONS = 49;

    public static void main(String[] args) {
        int sections = 0;
        for (String section : Sentences.sections()) {
            sections++;
            if (isPromised(section)) {
                listed(section);
            }
        }
        Check.same("sections", sections, SECTIONS);
        tests();
        Check.end();
    }

    /** FaceTest reads the face itself from the document; and what is not promised no test could miss. */
    private static boolean isPromised(String section) {
        return !section.equals("The public face") && !section.equals("Not promised");
    }

    /** What is left of a section without the words that are listed is no sentence and no part of one. */
    private static void listed(String section) {
        String text = Sentences.section(section);
        boolean[] told = new boolean[text.length()];
        for (String row : Sentences.rows()) {
            String[] cells = row.split(" \\| ");
            if (cells[0].equals("| " + section)) {
                tell(text, cells[1], told);
            }
        }
        StringBuilder left = new StringBuilder();
        for (int i = 0; i <= told.length; i++) {
            if (i < told.length && !told[i]) {
                left.append(text.charAt(i));
            } else if (left.length() > 0) {
                Check.holds("no test is listed: " + section + ": " + left, isNoSentence(left.toString()));
                left.setLength(0);
            }
        }
    }

    private static void tell(String text, String words, boolean[] told) {
        int at = text.indexOf(words);
        Check.holds("the document does not say: " + words, at >= 0);
        while (at >= 0) {
            Arrays.fill(told, at, at + words.length(), true);
            at = text.indexOf(words, at + 1);
        }
    }

    /** A title, a call as the face writes it, or what stands between two parts of a sentence. */
    private static boolean isNoSentence(String left) {
        return left.matches("[ ,.;-]*(<p>(The )?[A-Za-z]+\\.|`[^`]*\\)[^`]*`:|and)?[ ,.;-]*");
    }

    private static void tests() {
        for (String row : Sentences.rows()) {
            String[] cells = row.split(" \\| ");
            Check.same("cells of " + row, cells.length, 3);
            String test = cells[cells.length - 1];
            String file = test.substring(0, Math.max(0, test.indexOf('.')));
            Check.holds("there is no " + test, Files.isRegularFile(Path.of("src/test/java/" + file + ".java")));
        }
    }
}
