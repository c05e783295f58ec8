/** The edges that the promises 9 to 15 name: relations made of relations. */
final class EdgesOfRelations extends EdgeTests {
    EdgesOfRelations(Edges edges) {
        super(edges);
    }

    @Override
    void runAll() {
        copy();
        combine();
        compose();
        turn();
        oppose();
        close();
        cover();
        coverWithRing();
    }

    private void dueRow(Relationrows x, int relation, int from, String due) {
        check.dueText("row " + from + " of relation " + relation, Made.row(x, relation, from), due);
    }

    private void copy() {
        edges.at("Promise 9");
        edges.says("Makes a relation a copy of another one.", () -> {
            for (int size : SIZES) {
                Relationrows x = Calls.filled(size);
                String before = Made.state(Calls.filled(size), size);
                for (int relation = 0; relation < 4; relation++) {
                    x.copy(relation, relation);
                }
                check.dueText("into itself, " + size, Made.state(x, size), before);
                x.copy(2, 1);
                check.due("the same pairs, " + size, x.compare(2, 1), 0);
                x.oppose(3);
                x.copy(0, 3);
                check.due("nothing is left of before, " + size, x.compare(0, 3), 0);
            }
        });
        edges.says("Returns how many pairs it has then.", () -> {
            for (int size : SIZES) {
                Relationrows x = Made.full(size, 3);
                check.due("a full one of " + size, x.copy(3, 0), size * size);
                check.due("an empty one of " + size, x.copy(1, 3), 0);
                check.due("itself of " + size, x.copy(0, 0), size * size);
            }
        });
        edges.refusesIndex("Throws `IndexOutOfBoundsException` if there is no such relation, of "
                + "either", "copy");
    }

    private void combine() {
        edges.at("Promise 10");
        edges.says("Makes a relation what comes of it and another one.", () -> {
            for (int how = 0; how < 4; how++) {
                Relationrows x = Calls.filled(65);
                String before = Made.relation(x, 1, 65) + Made.relation(x, 0, 65);
                x.combine(3, 1, how);
                check.dueText("the others stay, " + how,
                        Made.relation(x, 1, 65) + Made.relation(x, 0, 65), before);
                int pairs = x.count(0);
                check.due("with itself, " + how, x.combine(0, 0, how), how < 2 ? pairs : 0);
            }
        });
        edges.says("0 for the pairs that one of them has at least, 1 for those that both have, 2 "
                + "for those of relation that other does not have, 3 for those that just one of "
                + "them has", () -> {
            for (int to : new int[] {0, 63, 64, 79}) {
                dueCombined(to, 0, true, true, true);
                dueCombined(to, 1, false, false, true);
                dueCombined(to, 2, true, false, false);
                dueCombined(to, 3, true, true, false);
            }
        });
        edges.says("Returns how many pairs relation has then.", () -> {
            for (int size : SIZES) {
                int all = size * size;
                int[] withFull = {all, 0, 0, all};
                int[] withEmpty = {all, 0, all, all};
                for (int how = 0; how < 4; how++) {
                    check.due("empty and full of " + size, Made.full(size, 1).combine(0, 1, how),
                            withFull[how]);
                    check.due("full and empty of " + size, Made.full(size, 1).combine(1, 0, how),
                            withEmpty[how]);
                }
            }
        });
        edges.refusesIndex("Throws `IndexOutOfBoundsException` if there is no such relation, of "
                + "either", "combine");
        edges.refusesArgument("Throws `IllegalArgumentException` if how is out of range",
                "combine");
    }

    private void dueCombined(int to, int how, boolean first, boolean second, boolean both) {
        Relationrows x = Made.of(80);
        Made.give(x, 1, 0, to, 64, to);
        Made.give(x, 2, 1, to, 64, to);
        x.combine(1, 2, how);
        String call = "how " + how + ", to " + to + ", pairs of ";
        check.due(call + "relation", x.has(1, 0, to), first);
        check.due(call + "other", x.has(1, 1, to), second);
        check.due(call + "both", x.has(1, 64, to), both);
        check.due(call + "neither", x.has(1, 79, to), false);
        check.due(call + "other then", x.count(2), 2);
    }

    private void compose() {
        edges.at("Promise 11");
        edges.says("Composes two relations: a relation has then just the pairs from an element to "
                + "another one for which a pair of the first one leads from there to some element, "
                + "and a pair of the second one from this to the other one.", () -> {
            for (int between : new int[] {0, 63, 64, 79}) {
                Relationrows x = Made.with(80, 79, between);
                Made.give(x, 1, between, 64);
                Made.give(x, 2, 5, 5);
                x.compose(0, 1, 2);
                dueRow(x, 2, 79, "1.0");
                check.due("just one, over " + between, x.count(2), 1);
            }
            Relationrows x = Made.with(80, 0, 1, 1, 0);
            x.compose(0, 0, 1);
            dueRow(x, 1, 0, "0.1");
            dueRow(x, 1, 1, "0.2");
            Made.give(x, 2, 2, 2);
            check.due("nothing to go on by", x.compose(0, 2, 3), 0);
            check.due("with an own pair", x.compose(2, 2, 3), 1);
        });
        edges.says("(The three can be the same.)", () -> {
            for (int size : SIZES) {
                Relationrows x = Calls.filled(size);
                x.compose(1, 1, 0);
                x.copy(1, 2);
                x.compose(1, 1, 1);
                check.due("all three, " + size, x.compare(1, 0), 0);
                x.compose(2, 3, 0);
                x.copy(2, 1);
                x.compose(1, 3, 1);
                check.due("the first and into, " + size, x.compare(1, 0), 0);
                x.compose(2, 3, 3);
                check.due("the second and into, " + size, x.compare(3, 0), 0);
            }
        });
        edges.says("Returns how many pairs it has then.", () -> {
            for (int size : SIZES) {
                Relationrows x = Made.full(size, 0);
                check.due("full ones of " + size, x.compose(0, 0, 3), size * size);
                check.due("full and empty of " + size, x.compose(0, 1, 3), 0);
                x.compose(0, 0, 3);
                check.due("empty and full of " + size, x.compose(1, 0, 3), 0);
                x.chain(2);
                check.due("chains of " + size, x.compose(2, 2, 2), Math.max(0, size - 2));
            }
        });
        edges.refusesIndex("Throws `IndexOutOfBoundsException` if there is no such relation, of "
                + "any", "compose");
    }

    private void turn() {
        edges.at("Promise 12");
        edges.says("each pair leads the other way", () -> {
            int[] edge = {0, 1, 63, 64, 79};
            for (int from : edge) {
                for (int to : edge) {
                    Relationrows x = Made.with(80, from, to);
                    x.turn(0);
                    check.due(from + " to " + to, x.has(0, to, from), true);
                    check.due(from + " to " + to, x.count(0), 1);
                }
            }
            Relationrows x = Made.with(80, 0, 79, 79, 0, 5, 5, 64, 63);
            x.turn(0);
            dueRow(x, 0, 0, "8000.0");
            dueRow(x, 0, 79, "0.1");
            dueRow(x, 0, 5, "0.20");
            dueRow(x, 0, 63, "1.0");
            dueRow(x, 0, 64, "0.0");
        });
        edges.says("Returns how many pairs it has.", () -> {
            for (int size : SIZES) {
                check.due("a full one of " + size, Made.full(size, 2).turn(2), size * size);
                check.due("an empty one of " + size, Made.full(size, 2).turn(1), 0);
                check.due("a row of " + size, withRow(size).turn(0), size);
            }
        });
        edges.refusesIndex("Throws `IndexOutOfBoundsException` if there is no such relation",
                "turn");
    }

    private static Relationrows withRow(int size) {
        Relationrows x = Made.of(size);
        x.setRange(0, size - 1, 0, size, true);
        return x;
    }

    private void oppose() {
        edges.at("Promise 13");
        edges.says("it has just the pairs that it did not have", () -> {
            for (int size : SIZES) {
                Relationrows x = Made.with(size, 0, size - 1);
                x.oppose(0);
                check.due("that it had, of " + size, x.has(0, 0, size - 1), false);
                check.due("that it did not have, of " + size, x.has(0, size - 1, size - 1),
                        size > 1);
                check.due("no elements beyond " + size, x.countOf(0, 0), size - 1);
                check.due("word 1 of " + size, x.wordOf(0, 0, 1),
                        size < 65 ? 0L : (1L << size - 65) - 1L);
                x.oppose(0);
                check.due("back, of " + size, x.has(0, 0, size - 1), true);
                check.due("back, of " + size, x.count(0), 1);
            }
        });
        edges.says("Returns how many pairs it has then.", () -> {
            for (int size : SIZES) {
                Relationrows x = Made.of(size);
                check.due("an empty one of " + size, x.oppose(3), size * size);
                check.due("a full one of " + size, x.oppose(3), 0);
                check.due("a row of " + size, withRow(size).oppose(0), size * size - size);
            }
        });
        edges.refusesIndex("Throws `IndexOutOfBoundsException` if there is no such relation",
                "oppose");
    }

    private void close() {
        edges.at("Promise 14");
        edges.says("Makes a relation its closure.", () -> {
            for (int size : SIZES) {
                Relationrows x = Made.of(size);
                x.chain(0);
                x.copy(0, 1);
                x.turn(1);
                x.close(0, false);
                x.close(1, false);
                check.due("no own pairs on a chain of " + size, x.is(0, 1), true);
                check.due("as far as it goes, " + size, x.countOf(0, 0), size - 1);
                check.due("not from its end, " + size, x.countOf(0, size - 1), 0);
                check.due("backwards, " + size, x.countOf(1, size - 1), size - 1);
                x.set(0, size - 1, 0, true);
                check.due("a ring of " + size, x.close(0, false), size * size);
            }
        });
        edges.says("whether each element is related to itself as well then", () -> {
            Relationrows x = Made.with(80, 3, 64, 64, 3, 79, 79, 64, 5);
            x.close(0, false);
            dueRow(x, 0, 3, "1.28");
            dueRow(x, 0, 64, "1.28");
            dueRow(x, 0, 79, "8000.0");
            dueRow(x, 0, 5, "0.0");
            x.close(0, true);
            dueRow(x, 0, 3, "1.28");
            dueRow(x, 0, 79, "8000.0");
            dueRow(x, 0, 5, "0.20");
            dueRow(x, 0, 0, "0.1");
        });
        edges.says("Returns how many pairs it has then.", () -> {
            for (int size : SIZES) {
                Relationrows x = Made.full(size, 1);
                check.due("an empty one of " + size, x.close(0, false), 0);
                check.due("an empty one of " + size + ", own too", x.close(0, true), size);
                check.due("own pairs of " + size, x.close(0, false), size);
                check.due("a full one of " + size, x.close(1, false), size * size);
                check.due("a full one of " + size + ", own too", x.close(1, true), size * size);
                x.chain(2);
                check.due("a chain of " + size, x.close(2, true), size * (size + 1) / 2);
            }
        });
        edges.refusesIndex("Throws `IndexOutOfBoundsException` if there is no such relation",
                "close");
    }

    private void cover() {
        edges.at("Promise 15");
        edges.says("Makes a relation the covers of another one.", () -> {
            for (int size : SIZES) {
                Relationrows x = Made.full(size, 1);
                x.chain(0);
                x.copy(0, 2);
                x.close(0, false);
                x.cover(0, 1);
                check.due("nothing is left of before, " + size, x.compare(1, 2), 0);
                check.due("relation stays, " + size, x.count(0), size * (size - 1) / 2);
                x.cover(3, 1);
                check.due("an empty one of " + size, x.count(1), 0);
            }
        });
        edges.says("(it can be the same)", () -> {
            for (int size : SIZES) {
                Relationrows x = Calls.filled(size);
                x.cover(0, 1);
                x.cover(0, 0);
                check.due("into itself, " + size, x.compare(0, 1), 0);
                x.chain(3);
                x.combine(3, 3, 2);
                x.chain(3);
                x.cover(2, 2);
                check.due("an order into itself, " + size, x.compare(2, 3), 0);
            }
        });
        edges.says("Returns how many pairs it has then.", () -> {
            for (int size : SIZES) {
                Relationrows x = Made.of(size);
                check.due("an empty one of " + size, x.cover(0, 1), 0);
                x.chain(2);
                x.close(2, false);
                check.due("an order of " + size, x.cover(2, 2), size - 1);
            }
            check.due("one pair", Made.with(80, 79, 0).cover(0, 3), 1);
        });
        edges.refusesIndex("Throws `IndexOutOfBoundsException` if there is no such relation, of "
                + "either", "cover");
    }

    private void coverWithRing() {
        edges.says("Throws `IllegalStateException` if relation has a ring", () -> {
            for (int size : SIZES) {
                Relationrows x = Made.with(size, size - 1, size - 1);
                x.chain(1);
                x.set(1, size - 1, 0, true);
                x.setRange(2, 0, size - 1, size, size > 1);
                for (int into = 0; into < 4; into++) {
                    int at = into;
                    check.refusesState("one step, " + size, () -> x.cover(0, at));
                    check.refusesState("as many as " + size, () -> x.cover(1, at));
                }
                check.due("relation stays, " + size, x.count(0), 1);
                check.due("relation stays, " + size, x.count(1), size);
                check.due("into stays, " + size, x.count(2), size > 1 ? 1 : 0);
                check.due("no ring, " + size, x.cover(2, 0), size > 1 ? 1 : 0);
                check.due("no ring, " + size, x.cover(3, 0), 0);
            }
        });
    }
}
