import java.util.ArrayList;
import java.util.List;

/** Tests of single sentences of the document, each told with the place where it stands. */
final class Edges {
    /** A sentence, or a part of one, and the place where the document says it. */
    record Quote(String place, String words) {
    }

    final Check check;
    final List<Quote> quotes = new ArrayList<>();
    private String place = "";

    Edges(Check check) {
        this.check = check;
    }

    /** Tells where the sentences from here on stand. */
    void at(String newPlace) {
        place = newPlace;
    }

    /** Runs the test of a sentence. */
    void says(String words, Runnable test) {
        quotes.add(new Quote(place, words));
        check.about(place + ", \"" + words + "\": ");
        int before = check.made();
        test.run();
        check.due("the test looks at answers", check.made() > before, true);
        check.about("");
    }

    /** Checks that calls answer so, and that nothing that can be seen has changed then. */
    void refuses(int elements, List<Calls.Call> calls, String due) {
        String before = Made.stateAndSize(Calls.filled(elements), elements);
        for (Calls.Call call : calls) {
            Relationrows x = Calls.filled(elements);
            check.dueText(call + " of " + elements, call.answer(x), due);
            check.dueText(call + " of " + elements + " leaves",
                    Made.stateAndSize(x, elements), before);
        }
    }

    /** Tests the sentence that a call throws for a relation or an element that does not exist. */
    void refusesIndex(String words, String name) {
        says(words, () -> {
            for (int elements : new int[] {1, 12, 64, 80}) {
                refuses(elements, Calls.named(name).wrongIndex(elements), Calls.INDEX);
                takesItsEdges(elements, name);
            }
        });
    }

    /** Tests the sentence that a call throws if another argument is out of range. */
    void refusesArgument(String words, String name) {
        says(words, () -> {
            for (int elements : new int[] {1, 12, 64, 80}) {
                refuses(elements, Calls.named(name).wrongOption(elements), Calls.ARGUMENT);
                takesItsEdges(elements, name);
            }
        });
    }

    private void takesItsEdges(int elements, String name) {
        for (Calls.Call call : Calls.named(name).accepted(elements)) {
            String answer = call.answer(Calls.filled(elements));
            check.due(call + " of " + elements + " is taken",
                    !answer.equals(Calls.INDEX) && !answer.equals(Calls.ARGUMENT), true);
        }
    }
}
