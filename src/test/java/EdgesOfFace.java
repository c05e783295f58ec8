import java.util.List;

/** The public face, word for word, and what the interface says ahead of its calls. */
final class EdgesOfFace extends EdgeTests {
    private final Document document;
    private final String source;

    EdgesOfFace(Edges edges, Document document, String source) {
        super(edges);
        this.document = document;
        this.source = source;
    }

    @Override
    void runAll() {
        face();
        headings();
    }

    // Behind a call's words its body begins; a constant and an import end as the document's do.
    private static String asWritten(String line) {
        return line.endsWith(");") || line.endsWith("Exception;") && line.contains("(")
                ? line.replaceFirst(";$", " {") : line;
    }

    private int placeOf(String words) {
        return source.indexOf(words);
    }

    private void face() {
        edges.at("The public face");
        int before = -1;
        for (String line : document.face) {
            String words = asWritten(line);
            int behind = before;
            edges.says(line, () -> {
                check.due("it stands in the class", placeOf(words) >= 0, true);
                check.due("it stands behind what is told before", placeOf(words) > behind, true);
                check.due("it stands there once", source.lastIndexOf(words), placeOf(words));
            });
            before = placeOf(words);
        }
    }

    private void headings() {
        edges.at("Terms 3");
        for (int i = 0; i < document.headings.size(); i++) {
            Document.Heading heading = document.headings.get(i);
            int start = placeOf(wordsOf(heading));
            int end = i + 1 < document.headings.size()
                    ? placeOf(wordsOf(document.headings.get(i + 1))) : source.length();
            edges.says(heading.line(), () -> dueHeading(heading, start, end));
        }
    }

    // The calls are told with a blank behind their types, which no other name has before it.
    private void dueHeading(Document.Heading heading, int start, int end) {
        check.due("it stands in the class", start >= 0, true);
        int before = start;
        for (String call : heading.calls()) {
            int at = placeOfCall(call);
            check.due(call + " stands behind it, in this order", at > before, true);
            check.due(call + " stands before the next one", at < end, true);
            before = at;
        }
        check.due("the calls ahead of which it stands",
                callsBetween(start, end), heading.calls().size());
    }

    private int placeOfCall(String call) {
        List<String> types = List.of("int", "boolean", "long", "double", "float");
        int place = -1;
        for (String type : types) {
            place = Math.max(place, placeOf(" public " + type + " " + call + "("));
        }
        return place;
    }

    private int callsBetween(int start, int end) {
        return start < 0 || end < start
                ? 0 : source.substring(start, end).split(" public \\w+ \\w+\\(", -1).length - 1;
    }

    private static String wordsOf(Document.Heading heading) {
        return "// " + heading.words() + " /**";
    }
}
