import java.util.Arrays;

/** The edges that the promises 1 to 8 name: a new object, begin, and pairs. */
final class EdgesOfPairs extends EdgeTests {
    private static final int[] SEEDS = {0, 1, -1, 7, 65536, Integer.MIN_VALUE, Integer.MAX_VALUE};

    EdgesOfPairs(Edges edges) {
        super(edges);
    }

    @Override
    void runAll() {
        newObject();
        begin();
        set();
        setRange();
        flipRange();
        setRow();
        chain();
        draw();
    }

    private void newObject() {
        edges.at("Promise 1");
        edges.says("Creates four relations without pairs between 12 elements, none of which is "
                + "marked.", () -> {
            Relationrows x = new Relationrows();
            String empty = " 0.0".repeat(12);
            check.dueText("a new object", Made.stateAndSize(x, 12), " relation 0:0" + empty
                    + " relation 1:0" + empty + " relation 2:0" + empty + " relation 3:0" + empty
                    + " marks: end 0 of 12");
            check.refusesIndex("a fifth one", () -> new Relationrows().count(4));
        });
    }

    private void begin() {
        edges.at("Promise 2");
        edges.says("Begins anew: all relations have no pairs, and no element is marked.", () -> {
            for (int before : SIZES) {
                for (int then : SIZES) {
                    Relationrows x = Made.of(before);
                    for (int relation = 0; relation < 4; relation++) {
                        x.oppose(relation);
                    }
                    x.mark(0, before, true);
                    x.begin(then);
                    check.dueText(before + " and then " + then, Made.state(x, then),
                            Made.state(Made.of(then), then));
                }
            }
        });
        edges.says("Begins anew", () -> {
            for (int before : SIZES) {
                for (int then : SIZES) {
                    dueNothingOfBefore(before, then);
                }
            }
        });
        edges.says("1 to 80", () -> {
            check.due("begin(1)", new Relationrows().begin(1), 12);
            check.due("begin(80)", new Relationrows().begin(80), 12);
            check.refusesArgument("begin(0)", () -> new Relationrows().begin(0));
            check.refusesArgument("begin(81)", () -> new Relationrows().begin(81));
        });
        edges.says("Returns how many there were.", () -> {
            Relationrows x = new Relationrows();
            check.due("at first", x.begin(80), 12);
            check.due("80", x.begin(80), 80);
            check.due("80 again", x.begin(1), 80);
            check.due("1", x.begin(1), 1);
            check.refusesArgument("begin(0)", () -> x.begin(0));
            check.refusesArgument("begin(81)", () -> x.begin(81));
            check.due("after refused ones", x.begin(64), 1);
        });
        edges.refusesArgument("Throws `IllegalArgumentException` if elements is out of range",
                "begin");
    }

    // What was found before must not stay in what the calls keep aside.
    private void dueNothingOfBefore(int before, int then) {
        Relationrows x = Made.of(before);
        x.oppose(0);
        check.refusesState("all pairs of " + before, () -> x.orderAt(0, 0));
        check.refusesState("all pairs of " + before, () -> x.longestWalk(0));
        check.due("all pairs of " + before, x.classes(0) + x.steps(0, 0, before - 1), 2);
        check.due("all pairs of " + before, x.compose(0, 0, 1) + x.errors(), before * before);
        x.begin(then);
        String call = before + " and then " + then;
        check.due(call + ", the last in order", x.orderAt(0, then - 1), then - 1);
        check.due(call + ", longest walk", x.longestWalk(0), 0);
        check.due(call + ", classes", x.classes(0), then);
        check.due(call + ", no walk", x.steps(0, 0, then - 1), -1);
        check.due(call + ", no covers", x.cover(0, 1), 0);
        check.due(call + ", no products", x.compose(0, 1, 2), 0);
        x.oppose(0);
        check.refusesState(call + ", all pairs", () -> x.orderAt(0, then - 1));
        check.refusesState(call + ", all pairs", () -> x.longestWalk(0));
    }

    private void set() {
        edges.at("Promise 3");
        edges.says("Gives a relation a pair, or takes it away.", () -> {
            for (int size : SIZES) {
                for (int from : new int[] {0, size - 1}) {
                    for (int to : new int[] {0, size - 1}) {
                        Relationrows x = Made.of(size);
                        x.set(3, from, to, true);
                        check.due(from + " to " + to, x.has(3, from, to), true);
                        check.due("just one", x.count(3), 1);
                        x.set(3, from, to, false);
                        check.due("away", x.count(3), 0);
                        x.oppose(3);
                        x.set(3, from, to, false);
                        check.due(from + " to " + to + " away", x.has(3, from, to), false);
                        check.due("just one away", x.count(3), size * size - 1);
                    }
                }
            }
        });
        edges.says("Returns whether it had it.", () -> {
            Relationrows x = Made.of(80);
            for (int to : new int[] {0, 63, 64, 79}) {
                check.due("not there, away", x.set(1, 79, to, false), false);
                check.due("not there", x.set(1, 79, to, true), false);
                check.due("there", x.set(1, 79, to, true), true);
                check.due("there, away", x.set(1, 79, to, false), true);
                check.due("not there again", x.set(1, 79, to, false), false);
            }
        });
        edges.refusesIndex("Throws `IndexOutOfBoundsException` if there is no such relation or "
                + "element", "set");
    }

    private void setRange() {
        edges.at("Promise 4");
        edges.says("Gives a relation the pairs from an element to all of a range, or takes them "
                + "away.", () -> {
            for (int size : SIZES) {
                Relationrows x = Made.of(size);
                x.setRange(2, size - 1, 0, 0, true);
                check.due("an empty range of " + size, x.count(2), 0);
                x.setRange(2, size - 1, 0, size, true);
                check.due("all of " + size, x.count(2), size);
                check.due("the last of " + size, x.has(2, size - 1, size - 1), true);
                x.setRange(2, size - 1, size, size, false);
                check.due("an empty range taken from " + size, x.count(2), size);
                x.setRange(2, size - 1, size - 1, size, false);
                check.due("the last away of " + size, x.has(2, size - 1, size - 1), false);
                check.due("the others of " + size, x.count(2), size - 1);
                x.setRange(2, size - 1, 0, size, false);
                check.due("all away of " + size, x.count(2), 0);
            }
        });
        edges.says("Returns how many elements the row of from has then.", () -> {
            Relationrows x = Made.of(80);
            check.due("an empty row", x.setRange(0, 0, 5, 5, true), 0);
            check.due("a full row", x.setRange(0, 0, 0, 80, true), 80);
            check.due("a full row again", x.setRange(0, 0, 63, 65, true), 80);
            check.due("another row", x.setRange(0, 79, 63, 65, true), 2);
            check.due("those outside of the range", x.setRange(0, 0, 1, 79, false), 2);
            check.due("not there", x.setRange(0, 79, 0, 63, false), 2);
        });
        edges.refusesIndex("Throws `IndexOutOfBoundsException` if there is no such relation or "
                + "element from, first is below 0, end is above the number of elements, or first "
                + "is above end", "setRange");
    }

    private void flipRange() {
        edges.at("Promise 5");
        edges.says("Turns the pairs from an element to all of a range: those that were there are "
                + "not, and the other way round.", () -> {
            for (int size : SIZES) {
                Relationrows x = Made.with(size, 0, 0);
                x.flipRange(0, 0, 0, size);
                check.due("that was there, of " + size, x.has(0, 0, 0), false);
                check.due("the others of " + size, x.countOf(0, 0), size - 1);
                x.flipRange(0, 0, 0, size);
                check.due("back, of " + size, x.has(0, 0, 0), true);
                check.due("back, of " + size, x.countOf(0, 0), 1);
                x.flipRange(0, 0, 0, 0);
                x.flipRange(0, 0, size, size);
                check.due("empty ranges of " + size, x.countOf(0, 0), 1);
                x.flipRange(0, size - 1, size - 1, size);
                check.due("the last of " + size, x.has(0, size - 1, size - 1), size > 1);
            }
        });
        edges.says("Returns how many elements the row of from has then.", () -> {
            Relationrows x = Made.of(80);
            check.due("full", x.flipRange(1, 79, 0, 80), 80);
            check.due("around 64", x.flipRange(1, 79, 63, 65), 78);
            check.due("empty range", x.flipRange(1, 79, 64, 64), 78);
            check.due("another row", x.flipRange(1, 78, 64, 64), 0);
            check.due("two are left", x.flipRange(1, 79, 0, 80), 2);
            check.due("none is left", x.flipRange(1, 79, 63, 65), 0);
        });
        edges.refusesIndex("Throws `IndexOutOfBoundsException` as for setRange()", "flipRange");
    }

    private void setRow() {
        edges.at("Promise 6");
        edges.says("Sets the row of an element by a number: it has just the elements k for which "
                + "bit k of the number is 1", () -> {
            Relationrows x = Made.of(80);
            for (int k = 0; k < 64; k++) {
                check.due("bit " + k, x.setRow(0, 0, 1L << k), 1);
                check.due("element " + k, x.has(0, 0, k), true);
            }
            x.setRange(0, 0, 0, 80, true);
            x.setRow(0, 0, Long.MIN_VALUE);
            check.dueText("none besides", Made.row(x, 0, 0), "0.8000000000000000");
            x.setRange(0, 0, 0, 80, true);
            x.setRow(0, 0, 0L);
            check.dueText("none at all", Made.row(x, 0, 0), "0.0");
            x.setRow(0, 79, Long.MAX_VALUE);
            check.dueText("all but 63", Made.row(x, 0, 79), "0.7fffffffffffffff");
        });
        edges.says("if there are such elements (0 to 63)", () -> {
            for (int size : SIZES) {
                Relationrows x = Made.of(size);
                int due = Math.min(size, 64);
                check.due("all bits of " + size, x.setRow(3, size - 1, -1L), due);
                check.due("the last of " + size, x.has(3, size - 1, size - 1), size <= 64);
                check.due("bits beyond " + size, x.setRow(3, 0, size < 64 ? -1L << size : 0L), 0);
                check.due("no elements from 64 on", x.wordOf(3, size - 1, 1), 0L);
                check.due("none comes later", x.oppose(3), size * size - (size > 1 ? due : 0));
            }
            Relationrows x = Made.of(1);
            x.setRow(0, 0, -1L);
            x.begin(80);
            check.due("none comes with more elements", x.count(0), 0);
        });
        edges.says("Returns how many elements the row has then.", () -> {
            Relationrows x = Made.of(80);
            check.due("none", x.setRow(0, 5, 0L), 0);
            check.due("64", x.setRow(0, 5, -1L), 64);
            x.setRange(0, 5, 64, 80, true);
            check.due("one of 80", x.setRow(0, 5, Long.MIN_VALUE), 1);
            check.due("another row", x.setRow(0, 6, 0L), 0);
        });
        edges.refusesIndex("Throws `IndexOutOfBoundsException` if there is no such relation or "
                + "element", "setRow");
    }

    private void chain() {
        edges.at("Promise 7");
        edges.says("Gives a relation the pairs from each element to the next one.", () -> {
            for (int size : SIZES) {
                Relationrows x = Made.of(size);
                x.chain(1);
                check.due("the last of " + size, x.countOf(1, size - 1), 0);
                check.due("not back to 0, of " + size, x.has(1, size - 1, 0), false);
                for (int from = 0; from + 1 < size; from++) {
                    check.due(from + " of " + size, x.beside(1, from, 0, 0), from + 1);
                }
                check.due("no others of " + size, x.count(1), size - 1);
            }
            Relationrows full = Made.of(80);
            full.oppose(0);
            check.due("a full one", full.chain(0), 6400);
        });
        edges.says("Returns how many pairs it has then.", () -> {
            for (int size : SIZES) {
                Relationrows x = Made.with(size, size - 1, 0);
                check.due("with another pair, " + size, x.chain(0), size);
                check.due("again, " + size, x.chain(0), size);
            }
        });
        edges.refusesIndex("Throws `IndexOutOfBoundsException` if there is no such relation",
                "chain");
    }

    private void draw() {
        edges.at("Promise 8");
        edges.says("for each of many draws, the seed is multiplied by 1103515245, and 12345 is "
                + "added", () -> {
            dueFirstDraws(0, 0, 76, 36, 5, 58, 15);
            dueFirstDraws(1, 38, 46, 33, 43, 59, 75);
            dueFirstDraws(-1, 57, 9, 22, 46, 73, 34);
            dueFirstDraws(Integer.MAX_VALUE, 9, 57, 70, 78, 41, 66);
        });
        edges.says("the pair leads from the element that is the rest of (seed >>> 16) divided by "
                + "the number of elements; then the same is done once more, for the element to "
                + "which it leads.", () -> {
            for (int seed : SEEDS) {
                for (int size = 1; size <= 80; size++) {
                    dueDraw(size, seed, 1);
                }
            }
        });
        edges.says("both as ints that go round", () -> {
            for (int size : SIZES) {
                for (int seed : SEEDS) {
                    dueDraw(size, seed, 1);
                }
            }
        });
        edges.says("the rest of (seed >>> 16) divided by the number of elements", () -> {
            for (int seed : SEEDS) {
                check.due("one element, seed " + seed, Made.of(1).draw(0, seed, 200), 1);
                dueDraw(80, seed, 50);
                dueDraw(79, seed, 50);
            }
        });
        edges.says("0 to 200, how many pairs are drawn", () -> {
            Relationrows x = Made.of(12);
            check.due("many 0", x.draw(2, 5, 0), 0);
            check.due("many 0 leaves all", x.count(2), 0);
            for (int size : SIZES) {
                dueDraw(size, -77, 0);
                dueDraw(size, -77, 200);
            }
            check.refusesArgument("many -1", () -> x.draw(2, 5, -1));
            check.refusesArgument("many 201", () -> x.draw(2, 5, 201));
        });
        edges.says("(some may be there already)", () -> {
            Relationrows x = Made.of(12);
            int drawn = x.draw(0, 5, 9);
            check.due("again", x.draw(0, 5, 9), drawn);
            x.oppose(1);
            check.due("all are there", x.draw(1, 5, 200), 144);
        });
        edges.says("Returns how many pairs it has then.", () -> {
            Relationrows x = Made.with(80, 79, 79);
            check.due("of before", x.draw(0, 0, 0), 1);
            check.due("of before and a new one", x.draw(0, 0, 1), 2);
        });
        edges.refusesIndex("Throws `IndexOutOfBoundsException` if there is no such relation",
                "draw");
        edges.refusesArgument("Throws `IllegalArgumentException` if many is out of range", "draw");
    }

    private void dueFirstDraws(int seed, int... elements) {
        for (int many = 0; many <= elements.length / 2; many++) {
            Relationrows x = Made.of(80);
            Relationrows due = Made.with(80, Arrays.copyOf(elements, many * 2));
            String call = "seed " + seed + ", many " + many;
            check.due(call, x.draw(0, seed, many), many);
            check.dueText(call, Made.state(x, 80), Made.state(due, 80));
        }
    }

    // Longs hold what ints would lose, so that the going round is told once more in other words.
    private void dueDraw(int size, int seed, int many) {
        Relationrows x = Made.of(size);
        Relationrows due = Made.of(size);
        long state = seed & 0xffffffffL;
        for (int i = 0; i < many; i++) {
            state = (state * 1103515245L + 12345L) % 0x100000000L;
            int from = (int) (state / 65536 % size);
            state = (state * 1103515245L + 12345L) % 0x100000000L;
            due.set(1, from, (int) (state / 65536 % size), true);
        }
        String call = "draw of " + size + ", seed " + seed + ", " + many;
        check.due(call, x.draw(1, seed, many), due.count(1));
        check.dueText(call, Made.state(x, size), Made.state(due, size));
    }
}
