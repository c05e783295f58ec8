import java.util.NoSuchElementException;

/** The edges that the terms name, and the first sentence about 512 calls. */
final class EdgesOfTerms extends EdgeTests {
    EdgesOfTerms(Edges edges) {
        super(edges);
    }

    @Override
    void runAll() {
        elementsAndRelations();
        walksAndRings();
        exceptions();
        ranges();
        classes();
        orders();
        coversAndMarks();
        calls();
    }

    private void elementsAndRelations() {
        edges.at("Terms 1");
        edges.says("There are elements, numbered from 0; begin() tells how many (1 to 80; 12 at "
                + "first).", () -> {
            dueElements(new Relationrows(), 12);
            for (int size : SIZES) {
                dueElements(Made.of(size), size);
            }
        });
        edges.says("There are the relations 0 to 3, without pairs at first.", () -> {
            Relationrows x = new Relationrows();
            for (int relation = 0; relation <= 3; relation++) {
                check.due("count(" + relation + ")", x.count(relation), 0);
            }
            check.refusesIndex("count(-1)", () -> x.count(-1));
            check.refusesIndex("count(4)", () -> x.count(4));
        });
        edges.says("leads from an element to an element, which may be the same one", () -> {
            for (int size : SIZES) {
                Relationrows x = Made.with(size, size - 1, size - 1);
                check.due("an own pair of " + size, x.has(0, size - 1, size - 1), true);
                check.due("an own pair of " + size, x.count(0), 1);
            }
        });
        edges.says("a relation has each pair once, or not", () -> {
            Relationrows x = Made.with(80, 0, 1, 0, 1, 79, 64, 79, 64);
            check.due("told twice", x.count(0), 2);
            check.due("told by a range again", x.setRange(0, 0, 1, 2, true), 1);
            check.due("told by a range again", x.setRange(0, 79, 64, 65, true), 1);
            check.due("joined with itself", x.combine(0, 0, 0), 2);
            check.due("a chain twice", x.chain(1) - x.chain(1), 0);
            check.due("drawn twice", x.draw(2, 3, 9) - x.draw(2, 3, 9), 0);
            x.set(0, 79, 64, false);
            check.due("taken away once", x.count(0), 1);
            check.due("taken away once", x.has(0, 79, 64), false);
        });
        edges.says("The row of an element is the set of the elements to which its pairs lead.",
                () -> {
            Relationrows x = Made.with(80, 5, 0, 5, 79, 0, 5, 79, 5);
            check.dueText("row 5", Made.row(x, 0, 5), "8000.1");
            check.dueText("row 0", Made.row(x, 0, 0), "0.20");
            check.dueText("row 79", Made.row(x, 0, 79), "0.20");
            check.dueText("an empty row", Made.row(x, 0, 78), "0.0");
        });
    }

    private void dueElements(Relationrows x, int size) {
        check.due("the first one of " + size, x.has(0, 0, 0), false);
        check.due("the last one of " + size, x.has(3, size - 1, size - 1), false);
        check.refusesIndex("from behind " + size, () -> x.has(0, size, 0));
        check.refusesIndex("to behind " + size, () -> x.has(0, 0, size));
        check.refusesIndex("before 0 of " + size, () -> x.has(0, -1, 0));
        check.due("all pairs of " + size, x.oppose(1), size * size);
        check.due("how many", x.begin(size), size);
    }

    private void walksAndRings() {
        edges.says("each step goes from an element to one of its row", () -> {
            Relationrows x = Made.with(80, 0, 79, 79, 64);
            check.due("one step", x.steps(0, 0, 79), 1);
            check.due("two steps", x.steps(0, 0, 64), 2);
            check.due("no step from an empty row", x.steps(0, 64, 0), -1);
            check.due("no step backwards", x.steps(0, 79, 0), -1);
        });
        edges.says("A ring is a walk of one step or more that ends where it began.", () -> {
            for (int size : SIZES) {
                check.due("a walk of no step is none", Made.of(size).hasRing(0), false);
                check.due("one step", Made.with(size, size - 1, size - 1).hasRing(0), true);
                Relationrows x = Made.of(size);
                x.chain(0);
                check.due("a chain of " + size, x.hasRing(0), false);
                x.set(0, size - 1, 0, true);
                check.due("as many steps as " + size, x.hasRing(0), true);
            }
            check.due("two steps", Made.with(80, 79, 0, 0, 79).hasRing(0), true);
            check.due("a ring with ways in and out",
                    Made.with(80, 3, 4, 4, 5, 5, 4, 5, 6).hasRing(0), true);
            check.due("two walks that meet", Made.with(4, 0, 1, 0, 2, 1, 3, 2, 3).hasRing(0),
                    false);
        });
    }

    private void exceptions() {
        edges.says("If several exceptions apply to a call, the one that is listed first is thrown",
                () -> {
            for (Calls calls : Calls.ALL) {
                edges.refuses(12, calls.wrongBoth(12), Calls.INDEX);
                edges.refuses(80, calls.wrongBoth(80), Calls.INDEX);
            }
            Relationrows ring = Made.with(12, 5, 5);
            check.refusesIndex("into before a ring", () -> ring.cover(0, 4));
            check.refusesIndex("place before a ring", () -> ring.orderAt(0, 12));
            check.refusesIndex("place before a ring", () -> ring.orderAt(0, -1));
        });
        edges.says("a call that throws an exception changes nothing", () -> {
            for (int size : new int[] {1, 2, 63, 65}) {
                for (Calls calls : Calls.ALL) {
                    edges.refuses(size, calls.wrongIndex(size), Calls.INDEX);
                    edges.refuses(size, calls.wrongOption(size), Calls.ARGUMENT);
                }
            }
            statesStay();
        });
        edges.says("An IndexOutOfBoundsException is thrown for a relation or an element that does "
                + "not exist.", () -> {
            for (Calls calls : Calls.ALL) {
                edges.refuses(12, calls.wrongIndex(12), Calls.INDEX);
            }
        });
    }

    // Relation 3 of the filled objects has a ring.
    private void statesStay() {
        for (int size : SIZES) {
            Relationrows x = Calls.filled(size);
            String before = Made.state(Calls.filled(size), size);
            for (int into = 0; into < 4; into++) {
                int at = into;
                check.refusesState("cover of " + size, () -> x.cover(3, at));
            }
            check.refusesState("orderAt of " + size, () -> x.orderAt(3, size - 1));
            check.refusesState("longestWalk of " + size, () -> x.longestWalk(3));
            check.refuses("markedAt of " + size, NoSuchElementException.class,
                    () -> x.markedAt(size));
            check.dueText("nothing of " + size + " changes", Made.state(x, size), before);
        }
    }

    private void ranges() {
        edges.says("A range from one element up to another has those that are not less than the "
                + "first one and less than the second one", () -> {
            int[] bounds = {0, 1, 31, 32, 33, 62, 63, 64, 65, 66, 78, 79, 80};
            for (int first : bounds) {
                for (int end : bounds) {
                    if (first <= end) {
                        dueRange(first, end);
                    }
                }
            }
        });
        edges.says("both can be the number of elements", () -> {
            for (int size : SIZES) {
                Relationrows x = Made.with(size, size - 1, size - 1);
                x.mark(size - 1, size, true);
                check.due("set of " + size, x.setRange(0, size - 1, size, size, false), 1);
                check.due("set of " + size, x.setRange(0, size - 1, size, size, true), 1);
                check.due("flip of " + size, x.flipRange(0, size - 1, size, size), 1);
                check.due("mark of " + size, x.mark(size, size, false), 1);
                check.due("mark of " + size, x.mark(size, size, true), 1);
                check.due("only end, of " + size, x.setRange(0, 0, 0, size, true), size);
                check.due("only end, of " + size, x.flipRange(0, 0, 0, size), 0);
                check.due("only end, of " + size, x.mark(0, size, true), size);
            }
        });
    }

    private void dueRange(int first, int end) {
        Relationrows x = Made.of(80);
        String range = first + " to " + end;
        check.due("set " + range, x.setRange(0, 7, first, end, true), end - first);
        check.due("flip " + range, x.flipRange(1, 7, first, end), end - first);
        check.due("mark " + range, x.mark(first, end, true), end - first);
        x.setRange(2, 7, 0, 80, true);
        check.due("take " + range, x.setRange(2, 7, first, end, false), 80 - end + first);
        for (int to = 0; to < 80; to++) {
            boolean isIn = to >= first && to < end;
            check.due(to + " in set " + range, x.has(0, 7, to), isIn);
            check.due(to + " in flipped " + range, x.has(1, 7, to), isIn);
            check.due(to + " in taken " + range, x.has(2, 7, to), !isIn);
        }
        check.due("the marks of " + range + " end", x.endOfMarks(), first == end ? 0 : end);
        check.due("the marks of " + range + " begin", first == end || x.markedAt(0) == first,
                true);
    }

    private void classes() {
        edges.at("Terms 2");
        edges.says("Two elements are in one class if they are the same", () -> {
            for (int size : SIZES) {
                Relationrows x = Made.of(size);
                check.due("without pairs of " + size, x.classOf(0, size - 1), size - 1);
                check.due("classes of " + size, x.classes(0), size);
                x.chain(0);
                check.due("on a chain of " + size, x.classOf(0, size - 1), size - 1);
                check.due("classes of " + size, x.classes(0), size);
            }
        });
        edges.says("or walks lead from each one to the other one", () -> {
            for (int size : new int[] {2, 12, 64, 65, 80}) {
                Relationrows x = Made.of(size);
                x.chain(0);
                x.set(0, size - 1, 0, true);
                check.due("all of " + size, x.classOf(0, size - 1), 0);
                check.due("all of " + size, x.classes(0), 1);
            }
            Relationrows x = Made.with(80, 0, 79, 79, 64, 64, 79);
            check.due("one way only", x.classOf(0, 0), 0);
            check.due("one way only", x.classOf(0, 79), 64);
            check.due("both ways", x.classOf(0, 64), 64);
            check.due("one class of two", x.classes(0), 79);
        });
        edges.says("A class is told by its least element.", () -> {
            Relationrows x = Made.with(80, 79, 63, 63, 64, 64, 79, 1, 0, 0, 1);
            check.due("of 79", x.classOf(0, 79), 63);
            check.due("of 64", x.classOf(0, 64), 63);
            check.due("of 63", x.classOf(0, 63), 63);
            check.due("of 1", x.classOf(0, 1), 0);
            check.due("of 0", x.classOf(0, 0), 0);
        });
    }

    private void orders() {
        edges.says("An order of all elements keeps a relation if each pair leads from an element "
                + "to one that comes later in the order.", () -> {
            for (int size : new int[] {2, 12, 64, 80}) {
                Relationrows x = Calls.filled(size);
                int[] places = new int[size];
                for (int place = 0; place < size; place++) {
                    places[x.orderAt(0, place)] += place + 1;
                }
                int sum = 0;
                for (int from = 0; from < size; from++) {
                    sum += places[from];
                    int to = x.beside(0, from, 0, 0);
                    boolean isLater = to < 0 || places[to] > places[from];
                    check.due("from " + from + " of " + size, isLater, true);
                }
                check.due("each element once", sum, size * (size + 1) / 2);
            }
        });
        edges.says("The first order takes, again and again, the least element that was not taken "
                + "yet and to which no pair leads from another element", () -> {
            Relationrows x = Made.with(5, 4, 1, 1, 0, 3, 2);
            int[] due = {3, 2, 4, 1, 0};
            for (int place = 0; place < 5; place++) {
                check.due("place " + place, x.orderAt(0, place), due[place]);
            }
            Relationrows y = Made.with(80, 79, 0, 64, 63);
            check.due("the first without a pair to it", y.orderAt(0, 0), 1);
            check.due("the last but 2", y.orderAt(0, 77), 78);
            check.due("the last but 1", y.orderAt(0, 78), 79);
            check.due("the last", y.orderAt(0, 79), 0);
            check.due("64 before 63", y.orderAt(0, 62), 64);
            check.due("63 at once", y.orderAt(0, 63), 63);
        });
        edges.says("or itself, that was not taken yet", () -> {
            for (int size : SIZES) {
                Relationrows x = Made.with(size, size - 1, size - 1);
                check.refusesState("the last of " + size, () -> x.orderAt(0, 0));
                Relationrows y = Made.with(size, 0, 0);
                check.refusesState("the first of " + size, () -> y.orderAt(0, size - 1));
            }
        });
        edges.says("if there is none though some were not taken, there is no order", () -> {
            Relationrows x = Made.with(80, 78, 79, 79, 78);
            for (int place = 0; place < 80; place++) {
                int at = place;
                check.refusesState("two are left, place " + place, () -> x.orderAt(0, at));
            }
            x.set(0, 79, 78, false);
            check.due("none is left", x.orderAt(0, 79), 79);
        });
    }

    private void coversAndMarks() {
        edges.says("A cover of a relation without a ring is a pair of its closure for which no "
                + "third element lies between: none to which the first one is related, and which "
                + "is related to the second one, in the closure.", () -> {
            Relationrows x = Made.with(80, 0, 64, 64, 79, 0, 79, 1, 2);
            check.due("a third one between", x.cover(0, 1), 3);
            check.due("a third one between", x.has(1, 0, 79), false);
            check.due("no third one", x.has(1, 1, 2), true);
            Relationrows far = Made.with(80, 0, 79, 0, 5, 5, 6, 6, 79);
            check.due("only the closure has it", far.cover(0, 0), 3);
            check.due("only the closure has it", far.has(0, 0, 79), false);
            Relationrows one = Made.with(2, 0, 1);
            check.due("there is no third one", one.cover(0, 0), 1);
        });
        edges.at("Terms 3");
        edges.says("Each element is marked or not; none is at first.", () -> {
            Relationrows x = new Relationrows();
            check.due("none", x.endOfMarks(), 0);
            check.due("none", x.mark(0, 0, true), 0);
            check.due("marked", x.mark(3, 4, true), 1);
            check.due("marked twice", x.mark(3, 4, true), 1);
            check.due("once away", x.mark(3, 4, false), 0);
            check.due("twice away", x.mark(3, 4, false), 0);
        });
        edges.says("`NONE = -1`: There is none.", () -> {
            check.due("NONE", Relationrows.NONE, -1);
            check.due("beside", Made.of(1).beside(3, 0, 0, 0), -1);
            check.due("steps", Made.of(1).steps(3, 0, 0), -1);
        });
    }

    private void calls() {
        edges.at("What it is");
        edges.says("An object is used for at most 512 calls after it has been made", () -> {
            Relationrows x = new Relationrows();
            check.due("call 1", x.begin(80), 12);
            check.due("call 2", x.chain(0), 79);
            for (int call = 3; call <= 511; call++) {
                check.due("call " + call, x.set(1, 79, 79, call % 2 == 1), call % 2 == 0);
            }
            check.due("call 512", x.errors(), 0);
        });
    }
}
