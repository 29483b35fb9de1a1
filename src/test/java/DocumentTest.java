import java.io.IOException;
import java.nio.file.Files;
import java.nio.file.Path;
import java.util.List;
import java.util.regex.Matcher;
import java.util.regex.Pattern;

/**
 * The document from its first line to its last: src/test/document.txt holds it piece by piece, each
 * with its tests, and no piece of ../shared/DOC.md is left out.
 */
public final class DocumentTest {
    private static final Path PIECES = Path.of("src/test/document.txt");
    private static final Path DOCUMENT = Path.of("../shared/DOC.md");
    private static final Pattern PROMISE = Pattern.compile("## Promise (\\d+):");

    private final Edges edges = new Edges();
    private final StringBuilder quoted = new StringBuilder();
    private String piece = "";
    /** Whether a test, or what is to be said instead, stands below the piece. */
    private boolean answered = true;
    private int promise = 0;
    private int line = 0;

    public static void main(String[] args) throws IOException {
        DocumentTest test = new DocumentTest();
        for (String text : Files.readAllLines(PIECES)) {
            test.read(text);
        }
        test.same(Files.readString(DOCUMENT));
        test.edges.finish(1, 35);
    }

    private void read(String text) {
        line++;
        boolean preamble = quoted.length() == 0 && !text.startsWith(">");
        if (preamble || text.isBlank()) {
            return;
        }
        String rest = text.substring(1).trim();
        switch (text.charAt(0)) {
            case '>': quote(rest); return;
            case '=': edges.edge(promise, title(), rest); break;
            case '!': still(rest); break;
            case '-': break;
            default: throw new IllegalStateException(PIECES + ", line " + line + ": can't read " + text);
        }
        answered = true;
    }

    private void quote(String text) {
        piece = answered ? text : piece + " " + text;
        answered = false;
        quoted.append(text).append(' ');
        Matcher heading = PROMISE.matcher(text);
        if (heading.find()) {
            promise = Integer.parseInt(heading.group(1));
        }
    }

    private void still(String text) {
        int bar = text.indexOf('|');
        if (bar < 0) {
            throw new IllegalStateException(PIECES + ", line " + line + ": no call behind a bar");
        }
        edges.still(promise, title(), text.substring(0, bar), text.substring(bar + 1).trim());
    }

    private String title() {
        return "line " + line + ", " + piece;
    }

    /** The pieces together are the document, but for spaces and line ends. */
    private void same(String document) {
        if (!answered) {
            throw new IllegalStateException("no test for: " + piece);
        }
        List<String> want = List.of(document.trim().split("\\s+"));
        List<String> got = List.of(quoted.toString().trim().split("\\s+"));
        for (int i = 0; i < Math.max(want.size(), got.size()); i++) {
            String word = i < want.size() ? want.get(i) : "the end";
            String read = i < got.size() ? got.get(i) : "the end";
            if (!word.equals(read)) {
                throw new IllegalStateException("word " + i + " of the document is " + word + ", in " + PIECES
                    + " it is " + read + ", behind: " + want.subList(Math.max(0, i - 9), Math.min(i, want.size())));
            }
        }
    }
}
