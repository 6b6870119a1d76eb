import java.io.IOException;
import java.nio.charset.StandardCharsets;
import java.nio.file.Files;
import java.nio.file.Path;

/** The words of ../shared/DOC.md, so that a test can say which of them it is of. */
final class Document {
    private static final Path PLACE = Path.of("..", "shared", "DOC.md");

    /** Empty where the document can't be read: the answers are tested then, the words are not. */
    private final String text;

    Document() {
        text = read();
    }

    private static String read() {
        try {
            return plain(Files.readString(PLACE, StandardCharsets.UTF_8));
        } catch (IOException missing) {
            System.out.println("no document at " + PLACE + ": its words are not looked up");
            return "";
        }
    }

    /** Whether the part of this name ("Promise 3", "Terms" or "What it is") has these words. */
    boolean has(String part, String words) {
        if (text.isEmpty()) {
            return true;
        }
        int from = text.indexOf("## " + part + (part.startsWith("Promise") ? ":" : " "));
        if (from < 0) {
            return false;
        }
        int to = text.indexOf(" ## ", from);
        return text.substring(from, to < 0 ? text.length() : to).contains(plain(words));
    }

    private static String plain(String words) {
        return words.replaceAll("\\s+", " ");
    }
}
