import java.io.IOException;
import java.nio.charset.StandardCharsets;
import java.nio.file.Files;
import java.nio.file.Path;
import java.util.List;
import java.util.regex.MatchResult;
import java.util.regex.Pattern;

/** The words of ../shared/DOC.md, so that a test can say which of them it is of. */
final class Document {
    private static final Path PLACE = Path.of("..", "shared", "DOC.md");

    /** Empty where the document can't be read: the answers are tested then, the words are not. */
    private final String text;

    Document() {
        text = read();
    }

    private static String read() {
        try {
            return plain(Files.readString(PLACE, StandardCharsets.UTF_8));
        } catch (IOException missing) {
            System.out.println("no document at " + PLACE + ": its words are not looked up");
            return "";
        }
    }

    /** Whether the part of this name ("Promise 3", "Terms" or "What it is") has these words. */
    boolean has(String part, String words) {
        if (text.isEmpty()) {
            return true;
        }
        int from = text.indexOf("## " + part + (part.startsWith("Promise") ? ":" : " "));
        if (from < 0) {
            return false;
        }
        int to = text.indexOf(" ## ", from);
        return text.substring(from, to < 0 ? text.length() : to).contains(plain(words));
    }

    /** The members of the public face, as the document writes them; none where it can't be read. */
    List<String> face() {
        int from = Math.max(0, text.indexOf("## The public face"));
        int to = Math.max(from, text.indexOf(" ## ", from));
        return found("public (?:static final int|NewsWire\\(|int )[^;]*", text.substring(from, to));
    }

    /** What the interface says ahead of its calls, in order. */
    List<String> headings() {
        return found("---- [a-z ]+", text);
    }

    private static List<String> found(String what, String in) {
        return Pattern.compile(what).matcher(in).results().map(MatchResult::group).toList();
    }

    private static String plain(String words) {
        return words.replaceAll("\\s+", " ");
    }
}
