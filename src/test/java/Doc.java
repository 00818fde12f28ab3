import java.io.IOException;
import java.nio.file.Files;
import java.nio.file.Path;
import java.util.ArrayList;
import java.util.List;
import java.util.regex.Matcher;
import java.util.regex.Pattern;

/** The document's sentences: which of them a test has named. */
final class Doc {
    private static final int PROMISES = 46;

    /** At 0 what holds for all promises, behind it the promises. */
    private final String[] parts = new String[PROMISES + 1];
    private final boolean[][] named = new boolean[PROMISES + 1][];

    Doc() throws IOException {
        String text = Files.readString(Path.of("../shared/DOC.md"));
        parts[0] = between(text, "An object is used", "## The public face") + between(text, "## Terms", "Ahead of the calls");
        for (int promise = 1; promise <= PROMISES; promise++) {
            String from = text.substring(text.indexOf("## Promise " + promise + ":"));
            Matcher m = Pattern.compile("(?s)`[^`]*`:(.*?)\n## ").matcher(from);
            parts[promise] = m.find() ? m.group(1) : "";
        }
        for (int part = 0; part <= PROMISES; part++) {
            parts[part] = plain(parts[part]);
            named[part] = new boolean[parts[part].length()];
        }
    }

    private static String between(String text, String from, String to) {
        int at = text.indexOf(from);
        return text.substring(at, text.indexOf(to, at)) + " ";
    }

    private static String plain(String text) {
        return text.replaceAll("## Terms|```text|```|======== \\d", " ").replaceAll("\\s+", " ").trim();
    }

    /** Whether the document says it, of this promise or of all of them. */
    boolean says(int promise, String sentence) {
        return name(promise, sentence) || name(0, sentence);
    }

    private boolean name(int part, String sentence) {
        int at = parts[part].indexOf(sentence);
        for (int i = at; at >= 0 && i < at + sentence.length(); i++) {
            named[part][i] = true;
        }
        return at >= 0;
    }

    /** What no test has named. */
    List<String> unnamed() {
        List<String> all = new ArrayList<>();
        for (int part = 0; part <= PROMISES; part++) {
            StringBuilder left = new StringBuilder();
            for (int i = 0; i <= parts[part].length(); i++) {
                if (i < parts[part].length() && !named[part][i]) {
                    left.append(parts[part].charAt(i));
                } else {
                    if (!left.toString().isBlank()) {
                        all.add((part == 0 ? "terms: " : "promise " + part + ": ") + left.toString().trim());
                    }
                    left.setLength(0);
                }
            }
        }
        return all;
    }
}
