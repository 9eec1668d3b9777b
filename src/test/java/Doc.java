import java.io.IOException;
import java.nio.file.Files;
import java.nio.file.Path;
import java.util.ArrayList;
import java.util.List;

/**
 * The document's own words, so that a test can name the sentence that it is for, and a sentence that no test names
 * is seen. Part 0 is the bound of calls and the terms, part n is promise n.
 */
final class Doc {
    static final int PROMISES = 33;
    private static final Path PLACE = Path.of("../shared/DOC.md");

    /** What is no sentence. */
    private static final String MARKS = "## Terms|```text|```|==== II\\.|KIND:";

    private final String[] parts = new String[PROMISES + 1];
    private final List<boolean[]> quoted = new ArrayList<>();
    private final boolean isThere;

    Doc() throws IOException {
        isThere = Files.exists(PLACE);
        String text = isThere ? squeezed(Files.readString(PLACE)) : "";
        for (int part = 0; part <= PROMISES; part++) {
            parts[part] = isThere ? part(text, part) : "";
            quoted.add(new boolean[parts[part].length()]);
        }
    }

    private static String squeezed(String text) {
        return text.replaceAll("\\s+", " ");
    }

    private static String part(String text, int part) {
        if (part == 0) {
            return between(text, "An object is used", "## The public face") + between(text, "## Terms", heading(1));
        }
        String promise = between(text, heading(part), part == PROMISES ? "## Not promised" : heading(part + 1));
        return promise.substring(promise.indexOf("`: ") + 3);
    }

    private static String heading(int promise) {
        return "## Promise " + promise + ": ";
    }

    private static String between(String text, String begins, String ends) {
        return text.substring(text.indexOf(begins), text.indexOf(ends));
    }

    /** Whether a sentence stands in a part, as a test says. */
    boolean says(int part, String sentence) {
        if (!isThere) {
            return true;
        }
        int place = parts[part].indexOf(sentence);
        for (int i = 0; place >= 0 && i < sentence.length(); i++) {
            quoted.get(part)[place + i] = true;
        }
        return place >= 0;
    }

    /** The words of a part that no test named. */
    String unsaid(int part) {
        StringBuilder rest = new StringBuilder();
        for (int i = 0; i < parts[part].length(); i++) {
            if (!quoted.get(part)[i]) {
                rest.append(parts[part].charAt(i));
            } else if (rest.length() > 0 && rest.charAt(rest.length() - 1) != '|') {
                rest.append('|');
            }
        }
        return rest.toString().replaceAll(MARKS, "").replaceAll("[| ]+", " ").trim();
    }
}
