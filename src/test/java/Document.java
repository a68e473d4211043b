import java.io.IOException;
import java.io.UncheckedIOException;
import java.nio.file.Files;
import java.nio.file.Path;

/** The texts the tests read; they are run from the project's folder, as .ci/run does. */
final class Document {
    private static final String DOC = "../shared/DOC.md";
    /** Without the document the tests of the class can still be run; only their quotes are not looked up. */
    private static final String WORDS = Files.exists(Path.of(DOC)) ? onOneLine(read(DOC)) : null;

    private Document() {
    }

    static boolean says(String words) {
        return WORDS == null || WORDS.contains(onOneLine(words));
    }

    static String read(String file) {
        try {
            return Files.readString(Path.of(file));
        } catch (IOException e) {
            throw new UncheckedIOException(e);
        }
    }

    private static String onOneLine(String text) {
        return text.replaceAll("\\s+", " ");
    }
}
