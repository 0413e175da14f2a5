import java.io.IOException;
import java.nio.file.Files;
import java.nio.file.Path;

/** The document's Terms and promises, word by word, and which of its words a test has quoted. */
final class Document {
    private static final Path FILE = Path.of("../shared/DOC.md");
    private static final String TERMS = " ## Terms ";
    private static final String PROMISE = " ## Promise ";
    private static final String END = " ## Not promised ";

    private final String text;
    private final boolean[] quoted;

    Document() throws IOException {
        String plain = Files.readString(FILE)
            .replaceAll("(?m)^```.*$", "")
            .replaceAll("(?m)^`[a-zA-Z ]+\\([a-z ,]*\\)`:", "")
            .replaceAll("==== [0-9]\\.", "");
        text = plain.replaceAll("\\s+", " ");
        quoted = new boolean[text.length()];
    }

    /** Looks for the words under their promise, then in the Terms, then anywhere: whether they are there. */
    boolean quote(int promise, String words) {
        int at = find(words, text.indexOf(PROMISE + promise + ":"), endOf(promise));
        if (at < 0) {
            at = find(words, text.indexOf(TERMS), text.indexOf(PROMISE));
        }
        if (at < 0) {
            at = text.indexOf(words);
        }
        for (int i = at; at >= 0 && i < at + words.length(); i++) {
            quoted[i] = true;
        }
        return at >= 0;
    }

    private int endOf(int promise) {
        int next = text.indexOf(PROMISE + (promise + 1) + ":");
        return next < 0 ? text.indexOf(END) : next;
    }

    private int find(String words, int from, int to) {
        int at = from < 0 ? -1 : text.indexOf(words, from);
        return at >= 0 && at + words.length() <= to ? at : -1;
    }

    /** The words of the Terms and promises that no test has quoted, headings left out. */
    String unquoted() {
        StringBuilder left = new StringBuilder();
        for (int i = text.indexOf(TERMS); i < text.indexOf(END); i++) {
            left.append(quoted[i] ? ' ' : text.charAt(i));
        }
        return left.toString().replaceAll("## (Terms|Promise [0-9]+: (A new object|[a-z]+))", " ")
            .replace("The constants:", " ").replaceAll("\\s+", " ").trim();
    }
}
