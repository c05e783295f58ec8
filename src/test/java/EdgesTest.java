import java.io.IOException;
import java.util.List;

/**
 * The edges that the document names, a test for each of its sentences; and that no sentence is
 * without one.
 */
public final class EdgesTest {
    private static final int MOST_WORDS = 8;

    private static boolean isPartOf(Edges.Quote quote, Edges.Quote sentence) {
        return quote.place().equals(sentence.place())
                && sentence.words().contains(quote.words());
    }

    // Short runs of words lead in only, as "Turns a relation round" does.
    private static String untested(Edges.Quote sentence, List<Edges.Quote> quotes) {
        String left = sentence.words();
        for (Edges.Quote quote : quotes) {
            if (isPartOf(quote, sentence)) {
                left = left.replace(quote.words(), "|");
            }
        }
        for (String run : left.split("\\|")) {
            if (run.strip().split(" ").length > MOST_WORDS) {
                return run;
            }
        }
        return "";
    }

    private static void sentencesHaveTests(Check check, List<Edges.Quote> quotes,
            Document document) {
        for (Edges.Quote sentence : document.tested) {
            check.due("there is a test for " + sentence,
                    quotes.stream().anyMatch(quote -> isPartOf(quote, sentence)), true);
            check.dueText("what has no test in " + sentence, untested(sentence, quotes), "");
        }
        for (Edges.Quote quote : quotes) {
            boolean isSaid = document.sentences.isEmpty()
                    || document.sentences.stream().anyMatch(said -> isPartOf(quote, said));
            check.due("the document says " + quote, isSaid, true);
        }
    }

    public static void main(String[] args) throws IOException {
        Check check = new Check("EdgesTest");
        Edges edges = new Edges(check);
        Document document = new Document();
        new EdgesOfFace(edges, document, Source.words()).runAll();
        new EdgesOfArguments(edges, document).runAll();
        new EdgesOfTerms(edges).runAll();
        new EdgesOfPairs(edges).runAll();
        new EdgesOfRelations(edges).runAll();
        new EdgesOfQuestions(edges).runAll();
        new EdgesOfWalks(edges).runAll();
        new EdgesOfMarks(edges).runAll();
        new EdgesOfMeasures(edges).runAll();
        sentencesHaveTests(check, edges.quotes, document);
        check.end();
    }
}
