import java.io.IOException;
import java.nio.file.Files;
import java.nio.file.Path;
import java.util.LinkedHashMap;
import java.util.Map;

/**
 * The document, so that no sentence of it is left without a test: a test quotes the sentence that it
 * is about, the quote must stand in the document, and at the end no word of it may be left unquoted.
 */
final class Document {
    private static final Path PLACE = Path.of("../shared/DOC.md");
    private static final Map<String, String> LEFT = new LinkedHashMap<>();
    private static String section = "";

    private Document() {
    }

    static void open() throws IOException {
        if (!Files.isReadable(PLACE)) {
            System.out.println("no " + PLACE + " here: the quotes are not compared with it");
            return;
        }
        for (String part : Files.readString(PLACE).split("\n## ")) {
            int end = part.indexOf('\n');
            String body = part.substring(end + 1).replaceAll("(?m)^```.*$", "");
            // The face stands ahead of each promise once more; FaceTest holds the class against it.
            LEFT.put(part.substring(0, end), plain(body).replaceFirst("^`[^`]*\\)[^`]*`: ", ""));
        }
        LEFT.remove("The public face");
        LEFT.remove("Not promised");
    }

    private static String plain(String text) {
        return text.replaceAll("\\s+", " ").trim();
    }

    /** The next quotes stand under the heading that begins so. */
    static void under(String heading) {
        section = heading;
        for (String name : LEFT.keySet()) {
            if (name.equals(heading) || name.startsWith(heading + ":")) {
                section = name;
            }
        }
        Check.holds("the document has the heading " + heading, LEFT.isEmpty() || LEFT.containsKey(section));
    }

    /** The next answers are about this sentence. */
    static void says(String quote) {
        Check.about(quote);
        if (LEFT.isEmpty()) {
            return;
        }
        String text = LEFT.getOrDefault(section, "");
        int at = text.indexOf(plain(quote));
        Check.holds("under \"" + section + "\" the document says (once for each quote) '" + quote + "'", at >= 0);
        if (at >= 0) {
            // The mark keeps a later quote from reaching over the place of this one.
            LEFT.put(section, text.substring(0, at) + " | " + text.substring(at + plain(quote).length()));
        }
    }

    static void close() {
        Check.about("");
        for (Map.Entry<String, String> part : LEFT.entrySet()) {
            boolean isQuoted = part.getValue().chars().noneMatch(Character::isLetterOrDigit);
            Check.holds("under \"" + part.getKey() + "\" no test quotes: " + part.getValue(), isQuoted);
        }
    }
}
