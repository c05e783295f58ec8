import java.util.NoSuchElementException;

/** The edges that the promises 30 to 33 name: marks. */
final class EdgesOfMarks extends EdgeTests {
    EdgesOfMarks(Edges edges) {
        super(edges);
    }

    @Override
    void runAll() {
        mark();
        spread();
        markedAt();
        endOfMarks();
    }

    private void dueNone(String call, Relationrows x, int index) {
        check.refuses(call, NoSuchElementException.class, () -> x.markedAt(index));
    }

    private void dueMarks(String call, Relationrows x, int... due) {
        for (int index = 0; index < due.length; index++) {
            check.due(call + ", index " + index, x.markedAt(index), due[index]);
        }
        dueNone(call + ", no more", x, due.length);
    }

    private void mark() {
        edges.at("Promise 30");
        edges.says("Marks all elements of a range, or takes their marks away.", () -> {
            Relationrows x = Made.of(80);
            x.mark(0, 1, true);
            x.mark(63, 65, true);
            x.mark(79, 80, true);
            dueMarks("marked", x, 0, 63, 64, 79);
            x.mark(64, 80, false);
            dueMarks("some away", x, 0, 63);
            x.mark(0, 0, false);
            x.mark(63, 63, false);
            x.mark(80, 80, true);
            dueMarks("empty ranges", x, 0, 63);
            x.mark(0, 80, false);
            dueMarks("all away", x);
        });
        edges.says("Returns how many elements are marked then.", () -> {
            for (int size : SIZES) {
                Relationrows x = Made.of(size);
                check.due("none of " + size, x.mark(0, 0, true), 0);
                check.due("all of " + size, x.mark(0, size, true), size);
                check.due("again, of " + size, x.mark(size - 1, size, true), size);
                check.due("the last of " + size, x.mark(size - 1, size, false), size - 1);
                check.due("the last again, of " + size, x.mark(size - 1, size, false), size - 1);
                check.due("none is left of " + size, x.mark(0, size, false), 0);
            }
        });
        edges.refusesIndex("Throws `IndexOutOfBoundsException` if first is below 0, end is above "
                + "the number of elements, or first is above end", "mark");
    }

    private void spread() {
        edges.at("Promise 31");
        edges.says("just the elements are marked then to which a pair of a relation leads from one "
                + "that was marked", () -> {
            Relationrows x = Made.with(80, 0, 63, 63, 64, 64, 79, 79, 79, 5, 5);
            x.mark(0, 1, true);
            x.spread(0, false);
            dueMarks("one step", x, 63);
            x.spread(0, false);
            dueMarks("two steps", x, 64);
            x.mark(0, 80, true);
            x.spread(0, false);
            dueMarks("from all", x, 5, 63, 64, 79);
            x.spread(1, false);
            dueMarks("no pairs", x);
            x.spread(0, false);
            dueMarks("no marks", x);
        });
        edges.says("whether those that were marked stay so as well", () -> {
            Relationrows x = Made.with(80, 0, 63, 63, 64);
            x.mark(0, 1, true);
            x.spread(0, true);
            dueMarks("one step", x, 0, 63);
            x.spread(0, true);
            dueMarks("two steps", x, 0, 63, 64);
            x.spread(1, true);
            dueMarks("no pairs", x, 0, 63, 64);
            x.begin(80);
            x.oppose(0);
            x.spread(0, true);
            dueMarks("no marks", x);
        });
        edges.says("Returns how many elements are marked then.", () -> {
            for (int size : SIZES) {
                Relationrows x = Made.full(size);
                check.due("no marks of " + size, x.spread(0, true), 0);
                x.mark(size - 1, size, true);
                check.due("to all of " + size, x.spread(0, false), size);
                check.due("no pairs of " + size, x.spread(1, true), size);
                check.due("no pairs of " + size, x.spread(1, false), 0);
            }
        });
        edges.refusesIndex("Throws `IndexOutOfBoundsException` if there is no such relation",
                "spread");
    }

    private void markedAt() {
        edges.at("Promise 32");
        edges.says("Returns a marked element.", () -> {
            for (int size : SIZES) {
                Relationrows x = Made.of(size);
                x.mark(0, size, true);
                for (int index = 0; index < size; index++) {
                    check.due("all of " + size, x.markedAt(index), index);
                }
            }
        });
        edges.says("0 for the least one", () -> {
            for (int at : new int[] {0, 63, 64, 79}) {
                Relationrows x = Made.of(80);
                x.mark(at, at + 1, true);
                check.due("only " + at, x.markedAt(0), at);
                x.mark(at, 80, true);
                check.due("from " + at + " on", x.markedAt(0), at);
            }
        });
        edges.says("Returns the element.", () -> {
            Relationrows x = Made.of(80);
            x.mark(62, 66, true);
            x.mark(79, 80, true);
            dueMarks("around 64", x, 62, 63, 64, 65, 79);
        });
        edges.says("Throws `NoSuchElementException` if there is none", () -> {
            for (int size : SIZES) {
                Relationrows x = Made.of(size);
                dueNone("no marks of " + size, x, 0);
                x.mark(0, size, true);
                for (int index : new int[] {-1, size, size + 1, 80, 256, -256,
                    Integer.MIN_VALUE, Integer.MAX_VALUE}) {
                    dueNone("index " + index + " of " + size, x, index);
                }
                check.due("the marks stay", x.mark(0, 0, true), size);
                x.mark(0, size - 1, false);
                check.due("one mark of " + size, x.markedAt(0), size - 1);
                dueNone("one mark of " + size, x, 1);
            }
        });
    }

    private void endOfMarks() {
        edges.at("Promise 33");
        edges.says("Returns the number behind the greatest marked element.", () -> {
            for (int size : SIZES) {
                Relationrows x = Made.of(size);
                x.mark(0, size, true);
                check.due("all of " + size, x.endOfMarks(), size);
                x.mark(size - 1, size, false);
                check.due("all but the last of " + size, x.endOfMarks(), size - 1);
            }
        });
        edges.says("Returns the element plus 1", () -> {
            Relationrows x = Made.of(80);
            for (int element = 79; element >= 0; element--) {
                x.begin(80);
                x.mark(element, element + 1, true);
                check.due("element " + element, x.endOfMarks(), element + 1);
            }
        });
        edges.says("0 if none is marked", () -> {
            for (int size : SIZES) {
                Relationrows x = Made.of(size);
                check.due("at first, " + size, x.endOfMarks(), 0);
                x.mark(0, size, true);
                x.mark(0, size, false);
                check.due("taken away, " + size, x.endOfMarks(), 0);
            }
        });
    }
}
