/** The edges that the promises 16 to 23 name: questions about pairs. */
final class EdgesOfQuestions extends EdgeTests {
    private static final int[] PLACES = {0, 1, 62, 63, 64, 65, 78, 79};

    EdgesOfQuestions(Edges edges) {
        super(edges);
    }

    @Override
    void runAll() {
        has();
        counts();
        besideUp();
        besideDown();
        besideNone();
        wordOf();
        meet();
        compare();
        isOwn();
        isBothWays();
        isTransitive();
        isLinked();
        isEdges();
    }

    private void has() {
        edges.at("Promise 16");
        edges.says("Tells whether a relation has a pair.", () -> {
            for (int size : SIZES) {
                Relationrows x = Made.of(size);
                check.due("an empty one of " + size, x.has(3, size - 1, size - 1), false);
                x.oppose(3);
                check.due("a full one of " + size, x.has(3, size - 1, size - 1), true);
                check.due("a full one of " + size, x.has(3, 0, size - 1), true);
                check.due("a full one of " + size, x.has(3, size - 1, 0), true);
            }
        });
        edges.says("Returns whether it has.", () -> {
            for (int from : PLACES) {
                for (int to : PLACES) {
                    Relationrows x = Made.with(80, from, to);
                    for (int other : PLACES) {
                        check.due(from + " to " + to, x.has(0, from, other), other == to);
                        check.due(from + " to " + to, x.has(0, other, to), other == from);
                    }
                }
            }
        });
        edges.refusesIndex("Throws `IndexOutOfBoundsException` if there is no such relation or "
                + "element", "has");
    }

    private void counts() {
        edges.at("Promise 17");
        edges.says("Returns the number of pairs of a relation.", () -> {
            for (int size : SIZES) {
                check.due("an empty one of " + size, Made.of(size).count(0), 0);
                check.due("a full one of " + size, Made.full(size).count(0), size * size);
            }
        });
        edges.says("Returns the number.", () -> {
            for (int at : PLACES) {
                check.due("one pair, " + at, Made.with(80, at, 79 - at).count(0), 1);
                check.due("own pair, " + at, Made.with(80, at, at).count(0), 1);
            }
        });
        edges.refusesIndex("Throws `IndexOutOfBoundsException` if there is no such relation",
                "count");
        edges.at("Promise 18");
        edges.says("Returns the number of elements of a row.", () -> {
            for (int size : SIZES) {
                check.due("an empty one of " + size, Made.of(size).countOf(0, size - 1), 0);
                check.due("a full one of " + size, Made.full(size).countOf(0, size - 1), size);
            }
        });
        edges.says("Returns the number.", () -> {
            for (int at : PLACES) {
                Relationrows x = Made.with(80, at, 0, at, 63, at, 64, at, 79);
                check.due("row " + at, x.countOf(0, at), 4);
                check.due("the row besides " + at, x.countOf(0, at ^ 1), 0);
            }
        });
        edges.refusesIndex("Throws `IndexOutOfBoundsException` if there is no such relation or "
                + "element", "countOf");
    }

    private void dueBeside(Relationrows x, int place, int how, int due) {
        check.due("beside " + place + ", how " + how, x.beside(0, 7, place, how), due);
    }

    private void besideUp() {
        edges.at("Promise 19");
        edges.says("Returns an element that is, or is not, in a row, beside a place.", () -> {
            for (int place : PLACES) {
                Relationrows x = Made.with(80, 7, place);
                dueBeside(x, place, 0, place);
                dueBeside(x, place, 2, place);
                x.flipRange(0, 7, 0, 80);
                dueBeside(x, place, 1, place);
                dueBeside(x, place, 3, place);
            }
        });
        edges.says("0 for the least one in the row that is not less than place", () -> {
            Relationrows x = Made.with(80, 7, 0, 7, 63, 7, 64, 7, 79);
            int[] due = {0, 63, 63, 63, 64, 79, 79, 79};
            for (int i = 0; i < PLACES.length; i++) {
                dueBeside(x, PLACES[i], 0, due[i]);
            }
        });
        edges.says("1 for the least one not in it that is not less than place", () -> {
            Relationrows x = Made.full(80);
            for (int out : new int[] {1, 62, 65, 78}) {
                x.set(0, 7, out, false);
            }
            int[] due = {1, 1, 62, 65, 65, 65, 78, -1};
            for (int i = 0; i < PLACES.length; i++) {
                dueBeside(x, PLACES[i], 1, due[i]);
            }
        });
    }

    private void besideDown() {
        edges.says("2 for the greatest one in it that is not greater than place", () -> {
            Relationrows x = Made.with(80, 7, 1, 7, 62, 7, 65, 7, 78);
            int[] due = {-1, 1, 62, 62, 62, 65, 78, 78};
            for (int i = 0; i < PLACES.length; i++) {
                dueBeside(x, PLACES[i], 2, due[i]);
            }
        });
        edges.says("3 for the greatest one not in it that is not greater than place", () -> {
            Relationrows x = Made.full(80);
            for (int out : new int[] {0, 63, 64, 79}) {
                x.set(0, 7, out, false);
            }
            int[] due = {0, 0, 0, 63, 64, 64, 64, 79};
            for (int i = 0; i < PLACES.length; i++) {
                dueBeside(x, PLACES[i], 3, due[i]);
            }
        });
    }

    private void besideNone() {
        edges.says("Returns the element; NONE if there is none.", () -> {
            for (int size : SIZES) {
                Relationrows x = Made.of(size);
                x.setRange(1, size - 1, 0, size, true);
                for (int place : new int[] {0, size - 1}) {
                    for (int how = 0; how < 4; how++) {
                        int empty = how % 2 == 0 ? Relationrows.NONE : place;
                        int whole = how % 2 == 0 ? place : Relationrows.NONE;
                        String call = "place " + place + " of " + size + ", how " + how;
                        check.due(call + ", empty", x.beside(0, size - 1, place, how), empty);
                        check.due(call + ", full", x.beside(1, size - 1, place, how), whole);
                    }
                }
            }
            Relationrows x = Made.with(80, 7, 40);
            dueBeside(x, 41, 0, Relationrows.NONE);
            dueBeside(x, 39, 2, Relationrows.NONE);
            x.flipRange(0, 7, 0, 80);
            dueBeside(x, 41, 1, Relationrows.NONE);
            dueBeside(x, 39, 3, Relationrows.NONE);
        });
        edges.refusesIndex("Throws `IndexOutOfBoundsException` if there is no such relation or "
                + "element, of either", "beside");
        edges.refusesArgument("Throws `IllegalArgumentException` if how is out of range",
                "beside");
    }

    private void wordOf() {
        edges.at("Promise 20");
        edges.says("Returns a row as bits.", () -> {
            Relationrows x = Made.of(80);
            check.due("an empty row", x.wordOf(2, 79, 0), 0L);
            check.due("an empty row", x.wordOf(2, 79, 1), 0L);
            x.setRange(2, 79, 0, 80, true);
            check.due("a full row", x.wordOf(2, 79, 0), -1L);
            check.due("a full row", x.wordOf(2, 79, 1), 65535L);
            check.due("the row before", x.wordOf(2, 78, 0), 0L);
        });
        edges.says("0 for the elements 0 to 63, 1 for those from 64 on", () -> {
            for (int size : SIZES) {
                Relationrows x = Made.full(size);
                check.due("word 0 of " + size, x.wordOf(0, size - 1, 0),
                        size < 64 ? (1L << size) - 1L : -1L);
                check.due("word 1 of " + size, x.wordOf(0, size - 1, 1),
                        size < 65 ? 0L : (1L << size - 64) - 1L);
            }
        });
        edges.says("Returns a number in which bit k is 1 if the element 64 * word + k is in the "
                + "row.", () -> {
            for (int to = 0; to < 80; to++) {
                Relationrows x = Made.with(80, 7, to);
                check.due("word 0 for " + to, x.wordOf(0, 7, 0), to < 64 ? 1L << to : 0L);
                check.due("word 1 for " + to, x.wordOf(0, 7, 1), to < 64 ? 0L : 1L << to - 64);
            }
        });
        edges.refusesIndex("Throws `IndexOutOfBoundsException` if there is no such relation or "
                + "element", "wordOf");
        edges.refusesArgument("Throws `IllegalArgumentException` if word is out of range",
                "wordOf");
    }

    private void meet() {
        edges.at("Promise 21");
        edges.says("Tells whether two rows have an element in common.", () -> {
            for (int size : SIZES) {
                Relationrows x = Made.full(size);
                check.due("full and full of " + size, x.meet(0, 0, 0, size - 1), true);
                check.due("full and empty of " + size, x.meet(0, 0, 1, size - 1), false);
                check.due("empty and full of " + size, x.meet(1, 0, 0, size - 1), false);
                check.due("empty and empty of " + size, x.meet(1, 0, 2, size - 1), false);
                check.due("an empty row with itself", x.meet(1, 0, 1, 0), false);
            }
        });
        edges.says("Returns whether the row of from in relation and that of at in other have one.",
                () -> {
            for (int one : PLACES) {
                for (int two : PLACES) {
                    Relationrows x = Made.with(80, 0, one);
                    x.set(3, 79, two, true);
                    check.due(one + " and " + two, x.meet(0, 0, 3, 79), one == two);
                    check.due(one + " and the other row", x.meet(0, 0, 3, 0), false);
                    check.due(one + " in the other relation", x.meet(3, 0, 0, 79), false);
                }
            }
        });
        edges.refusesIndex("Throws `IndexOutOfBoundsException` if there is no such relation or "
                + "element, of either", "meet");
    }

    private void compare() {
        edges.at("Promise 22");
        edges.says("Compares two relations.", () -> {
            for (int size : SIZES) {
                Relationrows x = Made.full(size);
                check.due("full and empty of " + size, x.compare(0, 1), 1);
                check.due("empty and full of " + size, x.compare(1, 0), 2);
            }
        });
        edges.says("Returns 0 if they have the same pairs", () -> {
            for (int size : SIZES) {
                Relationrows x = Made.full(size);
                check.due("both empty, " + size, x.compare(1, 2), 0);
                check.due("a full one with itself, " + size, x.compare(0, 0), 0);
                x.copy(0, 3);
                check.due("both full, " + size, x.compare(0, 3), 0);
            }
        });
        edges.says("1 if relation has all pairs of other and more", () -> dueLess(1, 0, 1));
        edges.says("2 if other has all of relation and more", () -> dueLess(0, 1, 2));
        edges.says("3 otherwise", () -> {
            for (int one : PLACES) {
                for (int two : PLACES) {
                    Relationrows x = Made.with(80, 79, one);
                    x.set(1, 79, two, true);
                    check.due(one + " and " + two, x.compare(0, 1), one == two ? 0 : 3);
                    x.set(1, 0, 0, true);
                    x.chain(0);
                    check.due(one + " and " + two + " with more", x.compare(1, 0), 3);
                }
            }
        });
        edges.refusesIndex("Throws `IndexOutOfBoundsException` if there is no such relation, of "
                + "either", "compare");
    }

    // Relation 1 is full, relation 0 is but for one pair.
    private void dueLess(int relation, int other, int due) {
        for (int from : PLACES) {
            for (int to : PLACES) {
                Relationrows x = Made.full(80);
                x.copy(0, 1);
                x.set(0, from, to, false);
                check.due("without " + from + ", " + to, x.compare(relation, other), due);
            }
        }
    }

    private void isOwn() {
        edges.at("Promise 23");
        edges.says("0 whether each element is related to itself", () -> {
            for (int size : SIZES) {
                Relationrows x = Made.of(size);
                check.due("none of " + size, x.is(0, 0), false);
                x.close(0, true);
                check.due("all of " + size, x.is(0, 0), true);
                x.set(0, size - 1, size - 1, false);
                check.due("all but the last of " + size, x.is(0, 0), false);
                x.set(0, size - 1, size - 1, true);
                x.set(0, 0, 0, false);
                check.due("all but the first of " + size, x.is(0, 0), false);
            }
        });
        edges.says("1 whether none is", () -> {
            for (int size : SIZES) {
                Relationrows x = Made.of(size);
                check.due("none of " + size, x.is(0, 1), true);
                x.chain(0);
                check.due("a chain of " + size, x.is(0, 1), true);
                x.set(0, size - 1, size - 1, true);
                check.due("the last of " + size, x.is(0, 1), false);
                x.set(0, size - 1, size - 1, false);
                x.set(0, 0, 0, true);
                check.due("the first of " + size, x.is(0, 1), false);
                check.due("all of " + size, Made.full(size).is(0, 1), false);
            }
        });
    }

    private void isBothWays() {
        edges.says("2 whether each pair leads the other way, too", () -> {
            for (int size : SIZES) {
                Relationrows x = Made.of(size);
                check.due("no pairs of " + size, x.is(0, 2), true);
                check.due("all pairs of " + size, Made.full(size).is(0, 2), true);
                x.set(0, size - 1, size - 1, true);
                check.due("an own pair of " + size, x.is(0, 2), true);
                x.set(0, 0, size - 1, true);
                check.due("up only, of " + size, x.is(0, 2), size == 1);
                x.set(0, size - 1, 0, true);
                check.due("both ways, of " + size, x.is(0, 2), true);
                x.set(0, 0, size - 1, false);
                check.due("down only, of " + size, x.is(0, 2), size == 1);
            }
        });
        edges.says("3 whether no pair between two different elements leads the other way, too",
                () -> {
            for (int size : SIZES) {
                Relationrows x = Made.of(size);
                check.due("no pairs of " + size, x.is(0, 3), true);
                check.due("all pairs of " + size, Made.full(size).is(0, 3), size == 1);
                x.close(0, true);
                check.due("own pairs of " + size, x.is(0, 3), true);
                x.set(0, 0, size - 1, true);
                check.due("up only, of " + size, x.is(0, 3), true);
                x.set(0, size - 1, 0, true);
                check.due("both ways, of " + size, x.is(0, 3), size == 1);
                x.set(0, 0, size - 1, false);
                check.due("down only, of " + size, x.is(0, 3), true);
            }
        });
    }

    private void isTransitive() {
        edges.says("4 whether it is transitive: each two steps of a walk are a pair from the first "
                + "element to the last one", () -> {
            for (int size : SIZES) {
                Relationrows x = Made.of(size);
                check.due("no pairs of " + size, x.is(0, 4), true);
                check.due("all pairs of " + size, Made.full(size).is(0, 4), true);
                x.chain(0);
                check.due("a chain of " + size, x.is(0, 4), size < 3);
                x.close(0, false);
                check.due("a closed chain of " + size, x.is(0, 4), true);
                x.set(0, 0, size - 1, false);
                check.due("but for a pair, of " + size, x.is(0, 4), size < 3);
            }
            check.due("two steps back", Made.with(80, 0, 79, 79, 0, 0, 0).is(0, 4), false);
            check.due("two steps back",
                    Made.with(80, 0, 79, 79, 0, 0, 0, 79, 79).is(0, 4), true);
            check.due("an own pair first", Made.with(80, 64, 64, 64, 5).is(0, 4), true);
            check.due("steps that do not follow", Made.with(80, 64, 79, 0, 63).is(0, 4), true);
        });
    }

    private void isLinked() {
        edges.says("5 whether of each two different elements one is related to the other one",
                () -> {
            for (int size : SIZES) {
                Relationrows x = Made.of(size);
                check.due("no pairs of " + size, x.is(0, 5), size == 1);
                check.due("all pairs of " + size, Made.full(size).is(0, 5), true);
                x.chain(0);
                x.close(0, false);
                check.due("an order of " + size, x.is(0, 5), true);
                x.set(0, 0, size - 1, false);
                check.due("but for two elements of " + size, x.is(0, 5), size == 1);
                x.set(0, size - 1, 0, true);
                check.due("the other way, of " + size, x.is(0, 5), true);
            }
        });
    }

    private void isEdges() {
        edges.says("Tells something about a relation.", () -> {
            boolean[] empty = {false, true, true, true, true, false};
            boolean[] whole = {true, false, true, false, true, true};
            boolean[] emptyOfOne = {false, true, true, true, true, true};
            boolean[] wholeOfOne = {true, false, true, true, true, true};
            for (int what = 0; what < 6; what++) {
                check.due("no pairs, " + what, Made.of(12).is(0, what), empty[what]);
                check.due("all pairs, " + what, Made.full(12).is(0, what), whole[what]);
                check.due("no pair of one, " + what, Made.of(1).is(0, what), emptyOfOne[what]);
                check.due("the pair of one, " + what, Made.full(1).is(0, what), wholeOfOne[what]);
            }
        });
        edges.says("Returns whether it is so.", () -> {
            Relationrows x = Calls.filled(80);
            String before = Made.state(Calls.filled(80), 80);
            for (int relation = 0; relation < 4; relation++) {
                for (int what = 0; what < 6; what++) {
                    boolean is = x.is(relation, what);
                    check.due("asked again, " + what, x.is(relation, what), is);
                }
            }
            check.dueText("nothing changes", Made.state(x, 80), before);
        });
        edges.refusesIndex("Throws `IndexOutOfBoundsException` if there is no such relation",
                "is");
        edges.refusesArgument("Throws `IllegalArgumentException` if what is out of range", "is");
    }
}
