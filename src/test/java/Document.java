import java.io.IOException;
import java.nio.file.Files;
import java.nio.file.Path;
import java.util.ArrayList;
import java.util.Arrays;
import java.util.List;

/** The sentences of the document for which there must be a test. */
final class Document {
    /** An argument of a call: what a line of the promise tells of it. */
    record Argument(String place, String call, int index, String name, String words) {
        String line() {
            return "`" + name + "`: " + words;
        }
    }

    /** Calls ahead of which the interface says something. */
    record Heading(String line, List<String> calls, String words) {
    }

    private static final Path FILE = Path.of("..", "shared", "DOC.md");

    /** What the document says, sentence by sentence or line by line. */
    final List<Edges.Quote> sentences = new ArrayList<>();
    /** Those of them that need a test of their own. */
    final List<Edges.Quote> tested = new ArrayList<>();
    final List<String> face = new ArrayList<>();
    final List<Argument> arguments = new ArrayList<>();
    final List<Heading> headings = new ArrayList<>();
    private String place = "";
    private String call = "";
    private int argumentsOfCall = 0;

    /** Reads the document; there are no sentences if it is not there. */
    Document() throws IOException {
        if (Files.isReadable(FILE)) {
            for (String line : Files.readAllLines(FILE)) {
                read(line.strip());
            }
        }
    }

    private void read(String line) {
        if (line.startsWith("## ")) {
            place = line.substring(3).replaceFirst("^(Promise \\d+):.*", "$1");
        } else if (place.startsWith("Terms") && line.matches("\\d\\. .*")) {
            place = "Terms " + line.charAt(0);
        } else if (place.equals("What it is")) {
            add(line, line.matches(".*\\d.*"));
        } else if (place.equals("The public face")) {
            readFace(line);
        } else if (place.startsWith("Promise")) {
            readPromise(line);
        } else if (line.startsWith("Ahead of the calls")) {
            readHeading(line);
        } else if (place.startsWith("Terms ")) {
            for (String sentence : line.split("(?<=\\.) ")) {
                add(sentence, true);
            }
        }
    }

    private void readFace(String line) {
        if (line.matches("(import|public) .*")) {
            face.add(line);
            add(line, true);
        }
    }

    private void readHeading(String line) {
        String calls = line.replaceFirst("the interface says.*", "");
        String words = line.replaceFirst(".*says: (.*)\\.$", "$1");
        headings.add(new Heading(line, Arrays.asList(
                calls.replaceAll("^[^`]*`|`[^`]*$", "").split("`, `")), words));
        add(line, true);
    }

    private void readPromise(String line) {
        if (line.startsWith("`")) {
            call = line.replaceFirst("^`(\\w+ )?(\\w+)\\(.*", "$2");
            argumentsOfCall = 0;
            add(line.replaceFirst("^`[^`]*`: ", ""), true);
        } else if (line.startsWith("- ")) {
            String[] parts = line.substring(2).split(": ", 2);
            Argument argument = new Argument(place, call, argumentsOfCall,
                    parts[0].replace("`", ""), parts[1]);
            argumentsOfCall++;
            arguments.add(argument);
            add(argument.line(), true);
        } else {
            add(line, true);
        }
    }

    private void add(String words, boolean isTested) {
        if (words.isEmpty()) {
            return;
        }
        Edges.Quote sentence = new Edges.Quote(place, words);
        sentences.add(sentence);
        if (isTested) {
            tested.add(sentence);
        }
    }
}
