import java.io.IOException;
import java.nio.file.Files;
import java.nio.file.Path;
import java.util.ArrayList;
import java.util.List;

/** Every sentence of the document, from its first to the last promise, is quoted word for word by a test of it. */
public final class QuoteTest {
    private static final Path DOCUMENT = Path.of("..", "shared", "DOC.md");

    private QuoteTest() {
    }

    public static void main(String[] args) throws IOException {
        if (!Files.exists(DOCUMENT)) {
            System.out.println("QuoteTest: there is no " + DOCUMENT);
            return;
        }
        String text = sentences(Files.readAllLines(DOCUMENT));
        boolean[] quoted = new boolean[text.length()];
        for (String quote : Check.quotes(QuoteTest::tables)) {
            mark(text, quote, quoted);
        }
        tellUnquoted(text, quoted);
        Check.end("QuoteTest");
    }

    private static void tables() {
        String[] none = {};
        PlainTest.main(none);
        LimitEdgeTest.main(none);
        MessageEdgeTest.main(none);
        MeasureEdgeTest.main(none);
        DecisionEdgeTest.main(none);
        CallEdgeTest.main(none);
    }

    /** The document in one line, without headings and fences, and without the face, which FaceTest asks. */
    private static String sentences(List<String> lines) {
        List<String> kept = new ArrayList<>();
        boolean left = false;
        for (String line : lines) {
            if (line.startsWith("## ")) {
                left = line.equals("## The public face") || line.equals("## Not promised");
            }
            if (!left && !line.startsWith("#") && !line.startsWith("```") && !line.isBlank()) {
                kept.add(withoutSignature(line).trim());
            }
        }
        return String.join(" ", kept).replaceAll("\\s+", " ");
    }

    private static String withoutSignature(String line) {
        int end = line.startsWith("`") ? line.indexOf("`: ") : -1;
        return end < 0 ? line : line.substring(end + 3);
    }

    private static void mark(String text, String quote, boolean[] quoted) {
        int at = text.indexOf(quote);
        Check.holds("it stands in the document: " + quote, at >= 0);
        Check.holds("it stands there once: " + quote, text.indexOf(quote, at + 1) < 0);
        for (int i = at; at >= 0 && i < at + quote.length(); i++) {
            quoted[i] = true;
        }
    }

    private static void tellUnquoted(String text, boolean[] quoted) {
        StringBuilder words = new StringBuilder();
        for (int i = 0; i <= text.length(); i++) {
            if (i < text.length() && !quoted[i]) {
                words.append(text.charAt(i));
            } else if (words.length() > 0) {
                Check.holds("a test asks this: " + words, words.chars().noneMatch(Character::isLetterOrDigit));
                words.setLength(0);
            }
        }
    }
}
