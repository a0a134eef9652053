import java.io.IOException;
import java.nio.file.Files;
import java.nio.file.Path;

/**
 * The sentences of a part of the document, which a test quotes one after another from the first to
 * the last: a sentence that no test quotes is a wrong answer, and so is a quote that the document
 * does not say there.
 */
final class Sentences {
    private final Check check;
    private String left;

    /** The part from one heading to another; headings and the marks of code are no sentences. */
    Sentences(Check check, String from, String to) throws IOException {
        this.check = check;
        String text = Files.readString(document());
        StringBuilder part = new StringBuilder();
        for (String line : text.substring(text.indexOf(from), text.indexOf(to)).split("\n")) {
            if (!line.startsWith("#") && !line.startsWith("```")) {
                part.append(line).append(' ');
            }
        }
        left = plain(part.toString());
    }

    static Path document() {
        return Path.of("../shared/DOC.md");
    }

    private static String plain(String text) {
        return text.strip().replaceAll("\\s+", " ");
    }

    /** The next sentence, or the next piece of one; the answers from here on belong to it. */
    void says(String quote) {
        check.about("'" + quote + "'");
        boolean isNext = left.startsWith(quote);
        check.due("what the document says next", isNext ? quote : left, quote);
        left = isNext ? left.substring(quote.length()).strip() : left;
    }

    void end() {
        check.about("the end");
        check.due("what no test quotes", left, "");
    }
}
