import java.io.IOException;
import java.io.UncheckedIOException;
import java.nio.file.Files;
import java.nio.file.Path;

/** The document's text, so that no test can name a sentence that isn't there. */
final class Document {

    private static final Path PATH = Path.of("../shared/DOC.md");
    private static final String TEXT = read();

    private Document() {
    }

    /** Where the document can't be found, its tests are run without looking into it. */
    static boolean says(String sentence) {
        return TEXT.isEmpty() || TEXT.contains(sentence);
    }

    private static String read() {
        if (!Files.isRegularFile(PATH)) {
            System.out.println("no document at " + PATH);
            return "";
        }
        try {
            return Files.readString(PATH).replaceAll("\\s+", " ");
        } catch (IOException e) {
            throw new UncheckedIOException(e);
        }
    }
}
