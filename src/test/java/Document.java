import java.io.IOException;
import java.nio.file.Files;
import java.nio.file.Path;
import java.util.ArrayList;
import java.util.List;

/**
 * The sentences of DOC.md that the tests quote: section 0 holds the terms, sections 1 to 41 the promises.
 * It tells which stretches of them no test has quoted, so that no sentence is left without a test.
 * Without that file every quotation is taken as it is.
 */
final class Document {
    private static final int PROMISES = 41;
    private static final Path PLACE = Path.of("../shared/DOC.md");

    private final boolean isThere = Files.exists(PLACE);
    private final String[] texts = new String[PROMISES + 1];
    private final boolean[][] quoted = new boolean[PROMISES + 1][];

    Document() throws IOException {
        if (!isThere) {
            System.out.println("there is no " + PLACE);
            return;
        }
        String whole = Files.readString(PLACE);
        for (int section = 0; section <= PROMISES; section++) {
            texts[section] = section == 0 ? terms(whole) : promise(whole, section);
            quoted[section] = new boolean[texts[section].length()];
        }
    }

    private static String terms(String whole) {
        String text = between(whole, "## Terms", "Ahead of the calls");
        return plain(text.replace("```text", " ").replace("```", " ").replaceAll("==== \\d ", " "));
    }

    private static String promise(String whole, int section) {
        String text = between(whole, "## Promise " + section + ":", "\n## ");
        return plain(text.substring(text.indexOf("`: ") + 3));
    }

    private static String between(String whole, String from, String to) {
        int begin = whole.indexOf(from) + from.length();
        return whole.substring(begin, whole.indexOf(to, begin));
    }

    private static String plain(String text) {
        return text.replaceAll("\\s+", " ").trim();
    }

    /** Whether the section has this stretch of text; it counts as tested then. */
    boolean quote(int section, String stretch) {
        if (!isThere) return true;
        int at = texts[section].indexOf(stretch);
        for (int i = 0; at >= 0 && i < stretch.length(); i++) quoted[section][at + i] = true;
        return at >= 0;
    }

    /** The stretches that no test has quoted. */
    List<String> untested() {
        List<String> found = new ArrayList<>();
        for (int section = 0; isThere && section <= PROMISES; section++) {
            StringBuilder stretch = new StringBuilder();
            for (int i = 0; i <= texts[section].length(); i++) {
                if (i < texts[section].length() && !quoted[section][i]) {
                    stretch.append(texts[section].charAt(i));
                } else {
                    if (!stretch.toString().isBlank()) found.add(section + ": " + stretch);
                    stretch.setLength(0);
                }
            }
        }
        return found;
    }
}
