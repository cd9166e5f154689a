import java.io.IOException;
import java.nio.file.Files;
import java.nio.file.Path;
import java.util.ArrayList;
import java.util.List;

/** The document, and which of its sentences have a test. */
final class Document {
    private static final Path FILE = Path.of("../shared/DOC.md");

    private final String text;
    private final boolean[] isTested;

    Document() {
        try {
            text = Files.readString(FILE);
        } catch (IOException e) {
            throw new IllegalStateException(FILE + " can't be read", e);
        }
        isTested = new boolean[text.length()];
    }

    /** Marks a sentence under a heading as tested; answers whether it stands there, and only once. */
    boolean mark(String heading, String sentence) {
        int from = text.indexOf("\n## " + heading + "\n");
        if (from < 0) return false;
        int end = text.indexOf("\n## ", from + 1);
        String section = text.substring(from, end < 0 ? text.length() : end);
        int at = section.indexOf(sentence);
        if (at < 0 || section.indexOf(sentence, at + 1) >= 0) return false;
        for (int i = from + at; i < from + at + sentence.length(); i++) isTested[i] = true;
        return true;
    }

    /** The sentences, and parts of sentences between semicolons, of which no test quotes anything; but for written code. */
    List<String> untested() {
        List<String> sentences = new ArrayList<>();
        int start = 0;
        for (int i = 0; i < text.length(); i++) {
            if (text.startsWith("```java", i)) {
                i = text.indexOf("```", i + 1) + 3;
                start = i;
            }
            boolean isEnd = text.charAt(i) == '\n' || ".;".indexOf(text.charAt(i)) >= 0 && i + 1 < text.length() && text.charAt(i + 1) == ' ';
            if (isEnd) {
                String sentence = text.substring(start, i + 1).trim();
                if (!sentence.isEmpty() && !sentence.startsWith("#") && !hasTest(start, i + 1)) sentences.add(sentence);
                start = i + 1;
            }
        }
        return sentences;
    }

    private boolean hasTest(int from, int end) {
        for (int i = from; i < end; i++) if (isTested[i]) return true;
        return false;
    }
}
