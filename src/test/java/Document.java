import java.io.IOException;
import java.io.UncheckedIOException;
import java.nio.file.Files;
import java.nio.file.Path;

/** ../shared/DOC.md, so that a test can't name a sentence that isn't there. */
final class Document {
    static final String TERMS = "Terms";
    private static final String TEXT = "\n" + read();

    private Document() {
    }

    private static String read() {
        try {
            return Files.readString(Path.of("../shared/DOC.md"));
        } catch (IOException e) {
            throw new UncheckedIOException(e);
        }
    }

    /** Whether the words stand behind a head: "Terms", "Promise 1" .. "Promise 47". */
    static boolean says(String head, String words) {
        String found = TEXT.indexOf("\n## " + head + ":") >= 0 ? "\n## " + head + ":" : "\n## " + head + "\n";
        int from = TEXT.indexOf(found);
        if (from < 0) {
            return false;
        }
        int to = TEXT.indexOf("\n## ", from + 1);
        String behind = TEXT.substring(from, to < 0 ? TEXT.length() : to);
        return behind.replaceAll("\\s+", " ").contains(words);
    }
}
