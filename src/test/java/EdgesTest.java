import java.io.IOException;
import java.util.List;

/**
 * The edges that the document names, a test for each of its sentences; and that no sentence is
 * without one.
 */
public final class EdgesTest {
    private static boolean isPartOf(Edges.Quote quote, Edges.Quote sentence) {
        return quote.place().equals(sentence.place())
                && sentence.words().contains(quote.words());
    }

    private static void sentencesHaveTests(Check check, List<Edges.Quote> quotes)
            throws IOException {
        Document document = new Document();
        for (Edges.Quote sentence : document.tested) {
            check.due("there is a test for " + sentence,
                    quotes.stream().anyMatch(quote -> isPartOf(quote, sentence)), true);
        }
        for (Edges.Quote quote : quotes) {
            boolean isSaid = document.sentences.isEmpty()
                    || document.sentences.stream().anyMatch(said -> isPartOf(quote, said));
            check.due("the document says " + quote, isSaid, true);
        }
    }

    public static void main(String[] args) throws IOException {
        Check check = new Check("EdgesTest");
        Edges edges = new Edges(check);
        new EdgesOfTerms(edges).runAll();
        new EdgesOfPairs(edges).runAll();
        new EdgesOfRelations(edges).runAll();
        new EdgesOfQuestions(edges).runAll();
        new EdgesOfWalks(edges).runAll();
        new EdgesOfMarks(edges).runAll();
        sentencesHaveTests(check, edges.quotes);
        check.end();
    }
}
