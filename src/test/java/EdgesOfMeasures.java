/** The edges that the promises 34 to 36 name: measures and the theorem. */
final class EdgesOfMeasures extends EdgeTests {
    EdgesOfMeasures(Edges edges) {
        super(edges);
    }

    @Override
    void runAll() {
        meanRow();
        share();
        errors();
        theorem();
    }

    private void meanRow() {
        edges.at("Promise 34");
        edges.says("Returns the mean number of elements of the rows of a relation.", () -> {
            for (int size : SIZES) {
                check.dueExactly("no pairs of " + size, Made.of(size).meanRow(0), 0.0);
                check.dueExactly("all pairs of " + size, Made.full(size).meanRow(0), size);
            }
        });
        edges.says("Returns the number of pairs converted to double, divided by the number of "
                + "elements, converted to double.", () -> {
            for (int size = 1; size <= 80; size++) {
                Relationrows x = Made.with(size, 0, size - 1);
                check.dueExactly("one pair of " + size, x.meanRow(0), 1.0 / size);
                x.oppose(0);
                check.dueExactly("all but one of " + size, x.meanRow(0),
                        (size * size - 1.0) / size);
            }
        });
        edges.refusesIndex("Throws `IndexOutOfBoundsException` if there is no such relation",
                "meanRow");
    }

    private void share() {
        edges.at("Promise 35");
        edges.says("Returns how much of all pairs that there could be a relation has.", () -> {
            for (int size : SIZES) {
                check.dueExactly("no pairs of " + size, Made.of(size).share(0), 0.0f);
                check.dueExactly("all pairs of " + size, Made.full(size).share(0), 1.0f);
            }
        });
        edges.says("Returns the number of its pairs converted to float, divided by the square of "
                + "the number of elements, converted to float.", () -> {
            for (int size = 1; size <= 80; size++) {
                Relationrows x = Made.with(size, 0, size - 1);
                check.dueExactly("one pair of " + size, x.share(0), 1.0f / (size * size));
                x.oppose(0);
                check.dueExactly("all but one of " + size, x.share(0),
                        (size * size - 1.0f) / (size * size));
            }
        });
        edges.refusesIndex("Throws `IndexOutOfBoundsException` if there is no such relation",
                "share");
    }

    private void errors() {
        edges.at("Promise 36");
        edges.says("Checks the theorem with the relations 0 to 2, none of which changes", () -> {
            for (int size : SIZES) {
                Relationrows x = Calls.filled(size);
                x.errors();
                check.dueText("of " + size, Made.stateAndSize(x, size),
                        Made.stateAndSize(Calls.filled(size), size));
                Relationrows all = Made.full(size);
                all.errors();
                check.due("all pairs of " + size, all.count(0), size * size);
            }
        });
        edges.says("Returns how many of these things are not as the theorem tells; always 0.",
                () -> {
            for (int size : SIZES) {
                check.due("no pairs of " + size, Made.of(size).errors(), 0);
                check.due("some pairs of " + size, Calls.filled(size).errors(), 0);
                Relationrows x = Made.full(size);
                check.due("all pairs once, of " + size, x.errors(), 0);
                x.oppose(1);
                x.oppose(2);
                check.due("all pairs, of " + size, x.errors(), 0);
                x.chain(0);
                x.combine(0, 1, 3);
                x.set(1, size - 1, 0, false);
                x.close(2, true);
                check.due("nearly all pairs, of " + size, x.errors(), 0);
            }
            check.due("a new object", new Relationrows().errors(), 0);
        });
    }

    // What errors() checks inside must hold of what the calls answer, too.
    private void theorem() {
        edges.says("for each one, its closure beside walks; its classes, order and covers", () -> {
            for (int size : new int[] {1, 2, 7, 12}) {
                for (int seed = 0; seed < 40; seed++) {
                    dueWalks(drawn(size, seed), size, "seed " + seed + " of " + size);
                    dueOrder(drawn(size, seed), size, "seed " + seed + " of " + size);
                }
            }
        });
        edges.says("and for all three together, that composition is associative and distributes "
                + "over union.", () -> {
            for (int size : SIZES) {
                for (int seed = 0; seed < 20; seed++) {
                    dueProducts(size, seed);
                }
            }
        });
    }

    private static Relationrows drawn(int size, int seed) {
        Relationrows x = Made.of(size);
        for (int relation = 0; relation < 3; relation++) {
            x.draw(relation, seed * 3 + relation, Math.min(200, size * (1 + seed % 3)));
        }
        return x;
    }

    private void dueWalks(Relationrows x, int size, String call) {
        x.copy(0, 3);
        x.close(3, false);
        int[] classes = new int[size];
        int found = 0;
        for (int from = 0; from < size; from++) {
            classes[from] = x.classOf(0, from);
            found += classes[from] == from ? 1 : 0;
            for (int to = 0; to < size; to++) {
                check.due(call + ", walk from " + from + " to " + to,
                        x.steps(0, from, to) != Relationrows.NONE, x.has(3, from, to));
            }
        }
        check.due(call + ", classes", x.classes(0), found);
        x.copy(3, 2);
        x.turn(2);
        x.combine(3, 2, 1);
        for (int from = 0; from < size; from++) {
            int least = x.beside(3, from, 0, 0);
            int due = least == Relationrows.NONE ? from : Math.min(least, from);
            check.due(call + ", class of " + from, classes[from], due);
        }
    }

    private void dueOrder(Relationrows x, int size, String call) {
        x.chain(3);
        x.close(3, false);
        check.due(call + ", errors", x.errors(), 0);
        if (x.hasRing(0)) {
            check.refusesState(call + ", order with a ring", () -> x.orderAt(0, 0));
            check.refusesState(call + ", covers with a ring", () -> x.cover(0, 1));
            x.combine(0, 3, 1);
        }
        int[] places = new int[size];
        for (int place = 0; place < size; place++) {
            places[x.orderAt(0, place)] = place;
        }
        for (int from = 0; from < size; from++) {
            for (int to = 0; to < size; to++) {
                check.due(call + ", order of " + from + " and " + to,
                        x.has(0, from, to) && places[from] >= places[to], false);
            }
        }
        x.cover(0, 1);
        x.close(1, false);
        x.close(0, false);
        check.due(call + ", closure of the covers", x.compare(0, 1), 0);
    }

    private void dueProducts(int size, int seed) {
        String call = "seed " + seed + " of " + size + ", ";
        Relationrows left = drawn(size, seed);
        left.compose(0, 1, 3);
        left.compose(3, 2, 3);
        Relationrows right = drawn(size, seed);
        right.compose(1, 2, 3);
        right.compose(0, 3, 3);
        dueSame(call + "associative", left, right, size);
        left = drawn(size, seed);
        left.combine(1, 2, 0);
        left.compose(0, 1, 3);
        right = drawn(size, seed);
        right.compose(0, 1, 3);
        right.compose(0, 2, 2);
        right.combine(3, 2, 0);
        dueSame(call + "over the union behind", left, right, size);
        left = drawn(size, seed);
        left.combine(0, 1, 0);
        left.compose(0, 2, 3);
        right = drawn(size, seed);
        right.compose(0, 2, 3);
        right.compose(1, 2, 1);
        right.combine(3, 1, 0);
        dueSame(call + "over the union before", left, right, size);
    }

    private void dueSame(String call, Relationrows left, Relationrows right, int size) {
        check.dueText(call, Made.relation(left, 3, size), Made.relation(right, 3, size));
    }
}
