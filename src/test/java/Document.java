import java.io.IOException;
import java.nio.file.Files;
import java.nio.file.Path;
import java.util.ArrayList;
import java.util.List;

/**
 * The document. A test of a bound is named by the words of the sentence that it tests, and fails if they
 * do not stand in the document: so it can be seen which sentence is tested where, and which is not.
 */
final class Document {
    private static final Path PLACE = Path.of("../shared/DOC.md");
    private static final String WORDS = read();
    private static final boolean[] TESTED = new boolean[WORDS.length()];

    private Document() {
    }

    /** A new desk for a sentence. */
    static Desk says(String sentence) {
        mark(sentence);
        return new Desk(sentence);
    }

    /** A desk for a sentence that has read a text without a FAULT. */
    static Desk says(String sentence, String text) {
        mark(sentence);
        return Desk.of(sentence, text);
    }

    /** What the document says of terms and promises and no test so far was named by. */
    static List<String> untested() {
        StringBuilder rest = new StringBuilder();
        int end = WORDS.indexOf("## Not promised");
        for (int i = Math.max(0, WORDS.indexOf("## Terms")); i < end; i++) {
            rest.append(TESTED[i] ? '\n' : WORDS.charAt(i));
        }
        String bare = rest.toString()
            .replaceAll("## Terms|## Promise \\d+: [^`\n]*|`(int|long) \\w+\\([^)]*\\)`:", "\n")
            .replaceAll("Ahead of the calls [^:]*: ---- [a-z ]*|```text|======== 2", "\n");
        List<String> pieces = new ArrayList<>();
        for (String piece : bare.split("\n+")) {
            if (piece.matches(".*[A-Za-z0-9].*")) {
                pieces.add(piece);
            }
        }
        return pieces;
    }

    private static void mark(String sentence) {
        int at = WORDS.indexOf(sentence);
        Desk.check("the document says: " + sentence, at >= 0, true);
        while (at >= 0) {
            for (int i = 0; i < sentence.length(); i++) {
                TESTED[at + i] = true;
            }
            at = WORDS.indexOf(sentence, at + 1);
        }
    }

    private static String read() {
        try {
            return Files.readString(PLACE).replaceAll("\\s+", " ");
        } catch (IOException e) {
            return "no document: " + e;
        }
    }
}
