import java.io.IOException;
import java.nio.charset.StandardCharsets;
import java.nio.file.Files;
import java.nio.file.Path;

/**
 * The document's own words. A test says which of them it looks at; in the end none may be left, from the first line
 * on, that no test has looked at, and none may have been said that the document does not say.
 */
final class Document {
    private static final Path FILE = Path.of("../shared/DOC.md");
    private static final String HEAD = "\n## ";
    private static String text = "";
    private static boolean[] lookedAt = new boolean[0];
    private static int from;
    private static int to;
    private static int sentences;
    private static int askedAhead;
    private static String latest = "";

    private Document() {
    }

    static void open() throws IOException {
        text = Files.readString(FILE, StandardCharsets.UTF_8) + HEAD;
        lookedAt = new boolean[text.length()];
    }

    /** The section that the words behind this are looked for in. */
    static void section(String title) {
        closeLatest();
        int at = text.indexOf(HEAD + title + "\n");
        Checks.holds("the document has a section " + title, at >= 0);
        from = at < 0 ? 0 : at + HEAD.length() + title.length() + 1;
        to = at < 0 ? 0 : text.indexOf(HEAD, from);
    }

    /** All that this section says. */
    static String words() {
        return text.substring(from, to);
    }

    /** These words are looked at by the checks that follow. */
    static void says(String words) {
        closeLatest();
        int at = text.indexOf(words, from);
        boolean there = at >= 0 && at + words.length() <= to;
        Checks.holds("the document says: " + words, there);
        for (int k = at; there && k < at + words.length(); k++) {
            lookedAt[k] = true;
        }
        sentences++;
        latest = words;
        askedAhead = Checks.askedSoFar();
        Checks.about(words);
    }

    private static void closeLatest() {
        Checks.holds("something is looked at of: " + latest, latest.isEmpty() || Checks.askedSoFar() > askedAhead);
        latest = "";
    }

    /** No word may be left; the titles are those by which the sections were found. */
    static void close() {
        closeLatest();
        Checks.about("");
        Checks.holds("the first line", text.startsWith("# NineBoards\n" + HEAD));
        for (int at = text.indexOf(HEAD); at >= 0; at = text.indexOf(HEAD, at + 1)) {
            int start = at + HEAD.length();
            int end = text.indexOf(HEAD, start);
            int line = text.indexOf('\n', start);
            if (line >= 0 && end >= 0) {
                nothingLeft(text.substring(start, line), line, end);
            }
        }
        System.out.println(sentences + " sentences of the document looked at");
    }

    private static void nothingLeft(String title, int start, int end) {
        StringBuilder left = new StringBuilder();
        for (int k = start; k < end; k++) {
            left.append(lookedAt[k] ? '\n' : text.charAt(k));
        }
        String words = left.toString().replaceAll("```(text|java)?", "");
        Checks.holds(title + ", nobody looks at: " + words.replaceAll("\\s+", " "), words.isBlank());
    }
}
