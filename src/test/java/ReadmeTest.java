import java.io.IOException;
import java.nio.file.Files;
import java.nio.file.Path;
import java.util.List;
import java.util.Set;
import java.util.regex.Matcher;
import java.util.regex.Pattern;

/** That README.md says in the document's words how the class is used, with a right example. */
public final class ReadmeTest {
    private static final Path FILE = Path.of("README.md");
    private static final Pattern EXAMPLE =
            Pattern.compile("x\\.(\\w+)\\((.*)\\);\\s*// ([^:]*)(: .*)?");
    private static final String NO_RELATION =
            "Throws `IndexOutOfBoundsException` if there is no such relation";

    // What is the same for all calls, the page tells once.
    private static final Set<String> TOLD_ONCE = Set.of(NO_RELATION, NO_RELATION + " or element",
            NO_RELATION + ", of either", NO_RELATION + ", of any",
            NO_RELATION + " or element, of either");
    private static final Set<String> PLAIN_ARGUMENTS = Set.of("a relation", "an element",
            "the first one of the range", "the one behind its last one");

    private final Check check = new Check("ReadmeTest");
    private final Document document = new Document();
    private final List<String> lines = Files.readAllLines(FILE);
    private final String words = String.join(" ", lines).replaceAll("\\s+", " ");

    private ReadmeTest() throws IOException {
    }

    private boolean isToldOnce(Edges.Quote sentence) {
        return TOLD_ONCE.contains(sentence.words())
                || PLAIN_ARGUMENTS.contains(sentence.words().replaceFirst("^`\\w+`: ", ""));
    }

    private void sentences() {
        for (Edges.Quote sentence : document.sentences) {
            boolean isCallsWords = sentence.place().matches("Terms .*|Promise .*|What it is");
            if (isCallsWords && !sentence.words().startsWith("Ahead of the calls")
                    && !isToldOnce(sentence)) {
                String said = sentence.words().replace("The constants: ", "");
                check.due("it says " + sentence, words.contains(said), true);
            }
        }
    }

    private void calls() {
        Pattern declared = Pattern.compile("public (\\w+ )?(\\w+)\\((.*)\\).*;");
        for (String line : document.face) {
            Matcher call = declared.matcher(line);
            if (call.matches()) {
                String names = call.group(3).replaceAll("\\w+ (\\w+)", "$1");
                String told = "- `" + call.group(2) + "(" + names + ")`: ";
                check.due("it tells " + told, words.contains(told), true);
            }
        }
        for (Document.Heading heading : document.headings) {
            String said = heading.words().replace("---- ", "");
            String title = "### " + said.substring(0, 1).toUpperCase() + said.substring(1);
            check.due("it says " + title, lines.contains(title), true);
        }
    }

    private static int[] numbers(String arguments) {
        String[] parts = arguments.isEmpty() ? new String[0] : arguments.split(", ");
        int[] numbers = new int[parts.length];
        for (int i = 0; i < parts.length; i++) {
            String part = parts[i].replace("true", "1").replace("false", "0");
            numbers[i] = Integer.parseInt(part);
        }
        return numbers;
    }

    private void example() {
        Relationrows x = new Relationrows();
        int found = 0;
        for (String line : lines) {
            Matcher call = EXAMPLE.matcher(line);
            if (call.matches()) {
                String answer = Calls.named(call.group(1)).call(numbers(call.group(2))).answer(x);
                check.dueText(line, answer.replace("throws.", ""), call.group(3).strip());
                found++;
            }
        }
        check.due("there is an example", found > 0, true);
    }

    private void tests() throws IOException {
        try (var files = Files.list(Path.of("src", "test", "java"))) {
            for (Path file : files.sorted().toList()) {
                String name = file.getFileName().toString().replace(".java", "");
                if (name.endsWith("Test")) {
                    check.due("it tells of `" + name + "`", words.contains("| `" + name + "` |"),
                            true);
                }
            }
        }
        check.due("it tells of .ci/run", words.contains("`.ci/run`"), true);
    }

    public static void main(String[] args) throws IOException {
        ReadmeTest test = new ReadmeTest();
        test.sentences();
        test.calls();
        test.example();
        test.tests();
        test.check.end();
    }
}
