import java.util.function.IntPredicate;

/** The arguments of the calls: each line of the document that tells of one. */
final class EdgesOfArguments extends EdgeTests {
    private static final int[] FEW_SIZES = {1, 2, 64, 80};

    private final Document document;

    EdgesOfArguments(Edges edges, Document document) {
        super(edges);
        this.document = document;
    }

    @Override
    void runAll() {
        for (Document.Argument argument : document.arguments) {
            edges.at(argument.place());
            edges.says(argument.line(), () -> dueArgument(argument));
        }
        rowsByTruth();
        relationsByTruth();
    }

    private void dueArgument(Document.Argument argument) {
        Calls calls = Calls.named(argument.call());
        check.due("it is one of " + calls.kinds, argument.index() < calls.kinds.length(), true);
        char kind = calls.kinds.charAt(argument.index());
        check.dueText("its kind", kindOf(argument.words()), String.valueOf(kind));
        check.due("it is told in the face", document.face.stream().anyMatch(line ->
                nameAt(line, argument.index()).equals(argument.name())
                        && line.contains(" " + argument.call() + "(")), true);
        for (int size : FEW_SIZES) {
            for (Calls.Call call : calls.withEach(argument.index(), size)) {
                String answer = call.answer(Calls.filled(size));
                check.due(call + " of " + size + " is taken, " + answer,
                        answer.equals(Calls.INDEX) || answer.equals(Calls.ARGUMENT)
                                || answer.equals(Calls.NO_ELEMENT), false);
            }
            for (Calls.Call call : calls.withEachBeside(argument.index(), size)) {
                check.dueText(call + " of " + size, call.answer(Calls.filled(size)),
                        Calls.refusalOf(kind));
            }
        }
    }

    private static String nameAt(String line, int index) {
        String[] parts = line.replaceFirst("^[^(]*\\(", "").replaceFirst("\\).*$", "").split(", ");
        return index < parts.length ? parts[index].replaceFirst("^.* ", "") : "";
    }

    /** Tells the kind, as Calls names it, of an argument of which the document says this. */
    private static String kindOf(String words) {
        String[][] kinds = {
            {"r", "a relation(, which is copied| \\(it can be the same\\))?"}, {"e", "an element"},
            {"e", "0 for the first one, to the number of elements less 1"},
            {"f", "the first one of the range"}, {"g", "the one behind its last one"},
            {"b", "whether .*"}, {"a", "the number|any number"}, {"n", "1 to 80, .*"},
            {"m", "0 to 200, .*"}, {"w", "0 for the elements 0 to 63, 1 for .*"},
            {"q", "0 whether .*5 whether .*"}, {"i", "0 for the least one"},
            {"h", "0 for .* 1 for .* 2 for .* 3 for .*"},
        };
        for (String[] kind : kinds) {
            if (words.matches(kind[1])) {
                return kind[0];
            }
        }
        return "none for " + words;
    }

    private void dueRow(String call, Relationrows x, int elements, IntPredicate due) {
        for (int to = 0; to < elements; to++) {
            check.due(call + ", to " + to, x.has(0, 0, to), due.test(to));
        }
    }

    private void rowsByTruth() {
        edges.at("Promise 3");
        edges.says("`is`: whether it has the pair then", () -> {
            for (boolean before : new boolean[] {false, true}) {
                for (boolean then : new boolean[] {false, true}) {
                    Relationrows x = Made.of(80);
                    x.setRange(0, 0, 0, 80, before);
                    x.set(0, 0, 64, then);
                    dueRow(before + " and " + then, x, 80, to -> to == 64 ? then : before);
                }
            }
        });
        edges.at("Promise 4");
        edges.says("`is`: whether it has the pairs then", () -> {
            for (boolean before : new boolean[] {false, true}) {
                for (boolean then : new boolean[] {false, true}) {
                    Relationrows x = Made.of(80);
                    x.setRange(0, 0, 0, 80, before);
                    x.set(0, 0, 63, !before);
                    x.setRange(0, 0, 62, 66, then);
                    dueRow(before + " and " + then, x, 80,
                            to -> to > 61 && to < 66 ? then : before);
                }
            }
        });
    }

    private void relationsByTruth() {
        edges.at("Promise 14");
        edges.says("`isOwn`: whether each element is related to itself as well then", () -> {
            for (int size : SIZES) {
                Relationrows x = Made.with(size, size - 1, size - 1);
                x.close(0, false);
                check.due("only what a walk gives, " + size, x.count(0), 1);
                x.close(0, true);
                check.due("each one, " + size, x.is(0, 0), true);
                check.due("no others, " + size, x.count(0), size);
            }
        });
        edges.at("Promise 30");
        edges.says("`is`: whether they are marked then", () -> {
            for (boolean before : new boolean[] {false, true}) {
                for (boolean then : new boolean[] {false, true}) {
                    Relationrows x = Made.of(80);
                    x.mark(0, 80, before);
                    int others = before ? 76 : 0;
                    check.due(before + " and " + then, x.mark(62, 66, then),
                            others + (then ? 4 : 0));
                }
            }
        });
        edges.at("Promise 31");
        edges.says("`isOwn`: whether those that were marked stay so as well", () -> {
            for (boolean isOwn : new boolean[] {false, true}) {
                Relationrows x = Made.with(80, 63, 64, 64, 79);
                x.mark(63, 65, true);
                check.due("marked, " + isOwn, x.spread(0, isOwn), isOwn ? 3 : 2);
                check.due("the least, " + isOwn, x.markedAt(0), isOwn ? 63 : 64);
                check.due("the end, " + isOwn, x.endOfMarks(), 80);
            }
        });
    }
}
