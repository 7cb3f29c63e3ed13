import java.io.IOException;
import java.nio.file.Files;
import java.nio.file.Path;

/** What the document says between its terms and what it does not promise, as one line. Run where src/ is. */
final class Document {
    private static final Path FILE = Path.of("../shared/DOC.md");

    private final String words;
    private final boolean[] told;

    Document() throws IOException {
        StringBuilder kept = new StringBuilder();
        boolean within = false;
        for (String line : Files.readAllLines(FILE)) {
            if (line.startsWith("## ")) {
                within = line.equals("## Terms") || line.startsWith("## Promise ");
            } else if (within && !line.startsWith("```") && !line.startsWith("Ahead of the calls ")) {
                kept.append(line).append(' ');
            }
        }
        words = kept.toString().replaceAll("======== \\d ", "").replaceAll("\\s+", " ");
        told = new boolean[words.length()];
    }

    static boolean isThere() {
        return Files.isReadable(FILE);
    }

    /** Every sentence at the head of a test stands in the document, and none of the document is left. */
    void compare(Check check) {
        for (String sentence : check.sentences()) {
            if (!sentence.equals("the document")) {
                check.due("the place of \"" + sentence + "\", told", mark(sentence) ? 1 : 0, 1);
            }
        }
        for (String left : left().split("\n")) {
            check.due("a sentence without a test", left.trim(), "");
        }
    }

    private boolean mark(String sentence) {
        int at = words.indexOf(sentence);
        boolean found = at >= 0;
        for (; at >= 0; at = words.indexOf(sentence, at + 1)) {
            for (int k = 0; k < sentence.length(); k++) {
                told[at + k] = true;
            }
        }
        return found;
    }

    private String left() {
        StringBuilder left = new StringBuilder();
        for (int k = 0; k < words.length(); k++) {
            left.append(told[k] || words.charAt(k) == ' ' && (k == 0 || told[k - 1]) ? '\n' : words.charAt(k));
        }
        return left.toString().replaceAll("\n+", "\n").trim();
    }
}
