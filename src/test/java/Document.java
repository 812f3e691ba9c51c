import java.io.IOException;
import java.nio.file.Files;
import java.nio.file.Path;
import java.util.ArrayList;
import java.util.List;

/** The text of the document: which words a test may quote for a promise, and which words no test quoted. */
final class Document {
    private static final Path PATH = Path.of("../shared/DOC.md");
    private static final int PROMISES = 20;

    private final String text;
    private final boolean[] quoted;

    private Document(String text) {
        this.text = text;
        quoted = new boolean[text.length()];
    }

    /** An empty document, if it cannot be read: then quotes are not looked at. */
    static Document read() {
        try {
            return new Document(Files.readString(PATH));
        } catch (IOException e) {
            System.out.println(PATH + " cannot be read: quotes are not looked at");
            return new Document("");
        }
    }

    boolean isThere() {
        return !text.isEmpty();
    }

    /** Marks words of a promise, or of what stands before all promises; false, if they are in neither. */
    boolean quote(int promise, String words) {
        return mark(startOf(promise), endOf(promise), words) || mark(0, heading(1), words);
    }

    /** What a test should have quoted and none did: pieces of the terms and of the promises. */
    List<String> unquoted() {
        List<String> pieces = new ArrayList<>();
        int questions = text.indexOf("======== 1 ");
        collect(questions, text.indexOf('\n', questions), pieces);
        int calls = text.indexOf("An object is used");
        collect(calls, text.indexOf('\n', calls), pieces);
        collect(text.indexOf('\n', text.indexOf("## Terms")), heading(1), pieces);
        for (int promise = 1; promise <= PROMISES; promise++) {
            collect(startOf(promise), endOf(promise), pieces);
        }
        return pieces;
    }

    private int heading(int promise) {
        return text.indexOf("## Promise " + promise + ":");
    }

    /** Behind the signature, which stands between backquotes. */
    private int startOf(int promise) {
        return text.indexOf("`: ", heading(promise)) + 3;
    }

    private int endOf(int promise) {
        return text.indexOf("\n## ", heading(promise));
    }

    private boolean mark(int from, int to, String words) {
        int found = text.indexOf(words, from);
        if (words.isEmpty() || found < 0 || found + words.length() > to) {
            return false;
        }
        for (int i = found; i < found + words.length(); i++) {
            quoted[i] = true;
        }
        return true;
    }

    private void collect(int from, int to, List<String> pieces) {
        StringBuilder piece = new StringBuilder();
        for (int i = from; i <= to; i++) {
            if (i < to && !quoted[i]) {
                piece.append(text.charAt(i));
            } else {
                if (piece.toString().replace("```text", "").matches("(?s).*[A-Za-z].*")) {
                    pieces.add(piece.toString().strip());
                }
                piece.setLength(0);
            }
        }
    }
}
