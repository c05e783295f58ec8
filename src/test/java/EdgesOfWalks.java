/** The edges that the promises 24 to 29 name: walks, classes and orders. */
final class EdgesOfWalks extends EdgeTests {
    EdgesOfWalks(Edges edges) {
        super(edges);
    }

    @Override
    void runAll() {
        steps();
        classOf();
        classes();
        hasRing();
        orderAt();
        noOrder();
        longestWalk();
        noLongestWalk();
    }

    private static Relationrows chained(int size) {
        Relationrows x = Made.of(size);
        x.chain(0);
        return x;
    }

    private static Relationrows ringed(int size) {
        Relationrows x = chained(size);
        x.set(0, size - 1, 0, true);
        return x;
    }

    private void steps() {
        edges.at("Promise 24");
        edges.says("Returns how far it is from an element to an element.", () -> {
            for (int size : SIZES) {
                Relationrows x = ringed(size);
                check.due("to the last of " + size, x.steps(0, 0, size - 1), Math.max(1, size - 1));
                check.due("back to the first of " + size, x.steps(0, size - 1, 0), 1);
                check.due("a full one of " + size, Made.full(size).steps(0, size - 1, 0), 1);
            }
        });
        edges.says("Returns the least number of steps of a walk from the first to the second",
                () -> {
            Relationrows x = chained(80);
            check.due("the whole chain", x.steps(0, 0, 79), 79);
            x.set(0, 1, 78, true);
            check.due("a shorter way", x.steps(0, 0, 79), 3);
            x.set(0, 0, 79, true);
            check.due("the shortest way", x.steps(0, 0, 79), 1);
            check.due("another element", x.steps(0, 0, 77), 77);
        });
        edges.says("1 or more", () -> {
            for (int size : SIZES) {
                Relationrows x = ringed(size);
                check.due("around " + size, x.steps(0, 0, 0), size);
                check.due("around " + size, x.steps(0, size - 1, size - 1), size);
                x.set(0, 0, 0, true);
                check.due("an own pair of " + size, x.steps(0, 0, 0), 1);
            }
        });
        edges.says("NONE if there is no walk", () -> {
            for (int size : SIZES) {
                Relationrows x = chained(size);
                check.due("to itself, " + size, x.steps(0, size - 1, size - 1), -1);
                check.due("backwards, " + size, x.steps(0, size - 1, 0), -1);
                check.due("no pairs, " + size, x.steps(1, 0, size - 1), -1);
            }
            check.due("beside a ring", Made.with(80, 0, 1, 1, 0, 5, 6).steps(0, 0, 6), -1);
            check.due("into a ring only", Made.with(80, 5, 0, 0, 1, 1, 0).steps(0, 0, 5), -1);
        });
        edges.refusesIndex("Throws `IndexOutOfBoundsException` if there is no such relation or "
                + "element", "steps");
    }

    private void classOf() {
        edges.at("Promise 25");
        edges.says("Returns the class of an element.", () -> {
            for (int size : SIZES) {
                check.due("no pairs of " + size, Made.of(size).classOf(0, size - 1), size - 1);
                check.due("a chain of " + size, chained(size).classOf(0, size - 1), size - 1);
                check.due("a ring of " + size, ringed(size).classOf(0, size - 1), 0);
                check.due("all pairs of " + size, Made.full(size).classOf(0, size - 1), 0);
            }
        });
        edges.says("Returns the least element of the class.", () -> {
            Relationrows x = Made.with(80, 78, 79, 79, 77, 77, 78, 76, 77, 78, 0);
            check.due("of 79", x.classOf(0, 79), 77);
            check.due("of 78", x.classOf(0, 78), 77);
            check.due("of 77", x.classOf(0, 77), 77);
            check.due("a way in", x.classOf(0, 76), 76);
            check.due("a way out", x.classOf(0, 0), 0);
        });
        edges.refusesIndex("Throws `IndexOutOfBoundsException` if there is no such relation or "
                + "element", "classOf");
    }

    private void classes() {
        edges.at("Promise 26");
        edges.says("Returns the number of classes of a relation.", () -> {
            for (int size : SIZES) {
                check.due("no pairs of " + size, Made.of(size).classes(0), size);
                check.due("a chain of " + size, chained(size).classes(0), size);
                check.due("a ring of " + size, ringed(size).classes(0), 1);
                check.due("all pairs of " + size, Made.full(size).classes(0), 1);
            }
        });
        edges.says("Returns the number.", () -> {
            Relationrows x = Made.of(80);
            for (int i = 0; i < 40; i++) {
                Made.give(x, 0, i, 79 - i, 79 - i, i);
                check.due("pairs of elements, " + i, x.classes(0), 79 - i);
            }
            Relationrows own = Made.of(80);
            own.close(0, true);
            check.due("own pairs", own.classes(0), 80);
        });
        edges.refusesIndex("Throws `IndexOutOfBoundsException` if there is no such relation",
                "classes");
    }

    private void hasRing() {
        edges.at("Promise 27");
        edges.says("Tells whether a relation has a ring.", () -> {
            for (int size : SIZES) {
                check.due("no pairs of " + size, Made.of(size).hasRing(0), false);
                check.due("a chain of " + size, chained(size).hasRing(0), false);
                check.due("a ring of " + size, ringed(size).hasRing(0), true);
                check.due("all pairs of " + size, Made.full(size).hasRing(0), true);
            }
        });
        edges.says("Returns whether it has.", () -> {
            for (int at : new int[] {0, 63, 64, 79}) {
                check.due("own pair " + at, Made.with(80, at, at).hasRing(0), true);
                Relationrows x = chained(80);
                x.close(0, false);
                check.due("an order", x.hasRing(0), false);
                x.set(0, at, at, true);
                check.due("an order and own pair " + at, x.hasRing(0), true);
            }
        });
        edges.refusesIndex("Throws `IndexOutOfBoundsException` if there is no such relation",
                "hasRing");
    }

    private void orderAt() {
        edges.at("Promise 28");
        edges.says("Returns an element of the first order that keeps a relation.", () -> {
            for (int size : SIZES) {
                Relationrows x = chained(size);
                x.copy(0, 1);
                x.turn(1);
                for (int place = 0; place < size; place++) {
                    check.due("no pairs of " + size, x.orderAt(2, place), place);
                    check.due("a chain of " + size, x.orderAt(0, place), place);
                    check.due("a chain back of " + size, x.orderAt(1, place), size - 1 - place);
                }
            }
        });
        edges.says("0 for the first one, to the number of elements less 1", () -> {
            for (int size : SIZES) {
                Relationrows x = Made.of(size);
                x.set(0, size - 1, 0, size > 1);
                check.due("the first of " + size, x.orderAt(0, 0), size == 1 ? 0 : 1);
                check.due("the last of " + size, x.orderAt(0, size - 1), 0);
                check.refusesIndex("place -1 of " + size, () -> x.orderAt(0, -1));
                check.refusesIndex("place " + size, () -> x.orderAt(0, size));
            }
        });
        edges.says("Returns the element.", () -> {
            Relationrows x = Made.with(80, 79, 64, 64, 63, 63, 0);
            check.due("place 0", x.orderAt(0, 0), 1);
            check.due("place 76", x.orderAt(0, 76), 79);
            check.due("place 77", x.orderAt(0, 77), 64);
            check.due("place 78", x.orderAt(0, 78), 63);
            check.due("place 79", x.orderAt(0, 79), 0);
        });
        edges.refusesIndex("Throws `IndexOutOfBoundsException` if there is no such relation or "
                + "place", "orderAt");
    }

    private void noOrder() {
        edges.says("Throws `IllegalStateException` if there is no order", () -> {
            for (int size : SIZES) {
                Relationrows own = Made.with(size, size - 1, size - 1);
                Relationrows ring = ringed(size);
                Relationrows all = Made.full(size);
                for (int place : new int[] {0, size - 1}) {
                    check.refusesState("own pair of " + size, () -> own.orderAt(0, place));
                    check.refusesState("a ring of " + size, () -> ring.orderAt(0, place));
                    check.refusesState("all pairs of " + size, () -> all.orderAt(0, place));
                    check.due("another relation", own.orderAt(1, place), place);
                }
                check.due("the relation stays", own.count(0) + ring.count(0), size + 1);
                check.refusesIndex("a place behind", () -> own.orderAt(0, size));
            }
            Relationrows last = Made.with(80, 78, 79, 79, 78);
            check.refusesState("a ring behind the place", () -> last.orderAt(0, 0));
        });
    }

    private void longestWalk() {
        edges.at("Promise 29");
        edges.says("Returns the length of the longest walk of a relation without a ring.", () -> {
            for (int size : SIZES) {
                Relationrows x = chained(size);
                check.due("a chain of " + size, x.longestWalk(0), size - 1);
                x.close(0, false);
                check.due("an order of " + size, x.longestWalk(0), size - 1);
                x.turn(0);
                check.due("an order back of " + size, x.longestWalk(0), size - 1);
            }
        });
        edges.says("Returns the number of its steps", () -> {
            Relationrows x = Made.with(80, 79, 0);
            check.due("one step", x.longestWalk(0), 1);
            x.set(0, 64, 79, true);
            check.due("two steps", x.longestWalk(0), 2);
            Made.give(x, 0, 1, 2, 2, 3, 3, 4);
            check.due("three steps elsewhere", x.longestWalk(0), 3);
        });
        edges.says("0 without pairs", () -> {
            for (int size : SIZES) {
                check.due("no pairs of " + size, Made.of(size).longestWalk(3), 0);
            }
        });
        edges.refusesIndex("Throws `IndexOutOfBoundsException` if there is no such relation",
                "longestWalk");
    }

    private void noLongestWalk() {
        edges.says("Throws `IllegalStateException` if it has a ring", () -> {
            for (int size : SIZES) {
                Relationrows own = Made.with(size, size - 1, size - 1);
                Relationrows ring = ringed(size);
                Relationrows all = Made.full(size);
                check.refusesState("own pair of " + size, () -> own.longestWalk(0));
                check.refusesState("a ring of " + size, () -> ring.longestWalk(0));
                check.refusesState("all pairs of " + size, () -> all.longestWalk(0));
                check.due("the relation stays", own.count(0) + ring.count(0), size + 1);
            }
        });
    }
}
