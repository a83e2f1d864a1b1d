import java.io.IOException;
import java.nio.file.Files;
import java.nio.file.Path;
import java.util.ArrayList;
import java.util.Arrays;
import java.util.List;

/** The document's words, but for headings and signatures, and which of them a test has quoted. */
final class Document {
    private static final Path PLACE = Path.of("..", "shared", "DOC.md");
    private static final String[][] PARTS = {{"An object is used", "## The public face"},
        {"## Terms", "## Not promised"}};

    private final String text;
    private final boolean[] quoted;

    private Document(String text) {
        this.text = text;
        this.quoted = new boolean[text.length()];
    }

    static boolean isThere() {
        return Files.exists(PLACE);
    }

    static Document read() throws IOException {
        String whole = Files.readString(PLACE);
        StringBuilder kept = new StringBuilder();
        for (String[] part : PARTS) {
            String words = whole.substring(whole.indexOf(part[0]), whole.indexOf(part[1]));
            kept.append(words.replaceAll("(?m)^(#|```).*$", "").replaceAll("(?m)^`[^`]*`:", "")).append(' ');
        }
        return new Document(oneLine(kept.toString()));
    }

    private static String oneLine(String words) {
        return words.replaceAll("\\s+", " ").trim();
    }

    /** How often the words stand in the document; wherever they do, they are quoted from now on. */
    int quote(String words) {
        int places = 0;
        for (int at = text.indexOf(words); at >= 0; at = text.indexOf(words, at + 1)) {
            Arrays.fill(quoted, at, at + words.length(), true);
            places++;
        }
        return places;
    }

    /** What no test has quoted. */
    List<String> unquoted() {
        List<String> runs = new ArrayList<>();
        int from = 0;
        for (int i = 0; i <= quoted.length; i++) {
            if (i == quoted.length || quoted[i]) {
                String run = text.substring(from, i);
                if (run.chars().anyMatch(Character::isLetterOrDigit)) {
                    runs.add(run.trim());
                }
                from = i + 1;
            }
        }
        return runs;
    }
}
