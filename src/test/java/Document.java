import java.io.IOException;
import java.io.UncheckedIOException;
import java.nio.file.Files;
import java.nio.file.Path;

/** ../shared/DOC.md, so that a test can't name a sentence that isn't there. */
final class Document {
    static final String TERMS = "Terms";
    private static final String TEXT = "\n" + read();

    private Document() {
    }

    private static String read() {
        try {
            return Files.readString(Path.of("../shared/DOC.md"));
        } catch (IOException e) {
            throw new UncheckedIOException(e);
        }
    }

    /** What stands behind a head ("Terms", "Promise 1" .. "Promise 47"), up to the next one. */
    static String behind(String head) {
        String found = TEXT.indexOf("\n## " + head + ":") >= 0 ? "\n## " + head + ":" : "\n## " + head + "\n";
        int from = TEXT.indexOf(found);
        if (from < 0) {
            return "";
        }
        int to = TEXT.indexOf("\n## ", from + 1);
        return TEXT.substring(from, to < 0 ? TEXT.length() : to);
    }

    static boolean says(String head, String words) {
        return behind(head).replaceAll("\\s+", " ").contains(words);
    }
}
