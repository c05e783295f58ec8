import java.io.IOException;
import java.nio.file.Files;
import java.nio.file.Path;
import java.util.ArrayList;
import java.util.List;

/** The sentences of the document for which there must be a test. */
final class Document {
    private static final Path FILE = Path.of("..", "shared", "DOC.md");

    /** What the document says, sentence by sentence or line by line. */
    final List<Edges.Quote> sentences = new ArrayList<>();
    /** Those of them that need a test of their own. */
    final List<Edges.Quote> tested = new ArrayList<>();
    private String place = "";

    /** Reads the document; there are no sentences if it is not there. */
    Document() throws IOException {
        if (Files.isReadable(FILE)) {
            for (String line : Files.readAllLines(FILE)) {
                read(line.strip());
            }
        }
    }

    private void read(String line) {
        if (line.startsWith("## ")) {
            place = line.substring(3).replaceFirst("^(Promise \\d+):.*", "$1");
        } else if (place.startsWith("Terms") && line.matches("\\d\\. .*")) {
            place = "Terms " + line.charAt(0);
        } else if (place.equals("What it is")) {
            add(line, line.matches(".*\\d.*"));
        } else if (place.startsWith("Promise")) {
            readPromise(line);
        } else if (place.startsWith("Terms ")) {
            for (String sentence : line.split("(?<=\\.) ")) {
                add(sentence, !line.startsWith("Ahead of the calls"));
            }
        }
    }

    // What only names an argument, without any bound, needs no test of its own.
    private void readPromise(String line) {
        String words = line.replaceFirst("^(- )?`[^`]*`: ", "");
        add(words, !line.startsWith("- ") || words.matches(".*(\\d|can be).*"));
    }

    private void add(String words, boolean isTested) {
        if (words.isEmpty()) {
            return;
        }
        Edges.Quote sentence = new Edges.Quote(place, words);
        sentences.add(sentence);
        if (isTested) {
            tested.add(sentence);
        }
    }
}
