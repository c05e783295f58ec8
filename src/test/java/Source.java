import java.io.IOException;
import java.nio.file.Files;
import java.nio.file.Path;

/** The text of the class, for what the document says of its words. */
final class Source {
    static final Path FILE = Path.of("src", "main", "java", "Relationrows.java");

    private Source() {
    }

    /** The whole text with one space where there is any white space. */
    static String words() throws IOException {
        return Files.readString(FILE).replaceAll("\\s+", " ");
    }
}
