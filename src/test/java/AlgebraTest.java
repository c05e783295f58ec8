/** Promises 9 to 15: relations made of relations. */
public final class AlgebraTest {
    private static final Check check = new Check("AlgebraTest");

    /** Checks that a relation has just these pairs, each written as from, to. */
    private static void dueJust(String call, Relationrows x, int relation, int... pairs) {
        check.due(call + " has pairs", x.count(relation), pairs.length / 2);
        for (int i = 0; i + 1 < pairs.length; i += 2) {
            check.due(call + " has " + pairs[i] + ", " + pairs[i + 1],
                    x.has(relation, pairs[i], pairs[i + 1]), true);
        }
    }

    private static void promise9Copy() {
        Relationrows x = Made.of(80);
        Made.give(x, 0, 1, 2, 63, 64, 79, 79, 70, 3);
        Made.give(x, 1, 5, 5, 1, 2, 78, 0);
        check.due("9: copy(0, 1)", x.copy(0, 1), 4);
        dueJust("9: the copy", x, 1, 1, 2, 63, 64, 79, 79, 70, 3);
        check.due("9: copy(0, 0)", x.copy(0, 0), 4);
        dueJust("9: its own copy", x, 0, 1, 2, 63, 64, 79, 79, 70, 3);
        x.set(0, 0, 0, true);
        check.due("9: the copy is apart", x.count(1), 4);
        check.due("9: copy(3, 1)", x.copy(3, 1), 0);
        check.due("9: the copied one stays", x.count(0), 5);
        check.refusesIndex("9: copy(4, 0)", () -> x.copy(4, 0));
        check.refusesIndex("9: copy(0, 4)", () -> x.copy(0, 4));
        check.refusesIndex("9: copy(-1, 0)", () -> x.copy(-1, 0));
        check.refusesIndex("9: copy(1, -1)", () -> x.copy(1, -1));
        check.due("9: a refused copy changes nothing", x.count(0), 5);
    }

    private static void promise10Combine() {
        int[] counts = {4, 1, 1, 3};
        for (int how = 0; how < 4; how++) {
            Relationrows x = Made.of(80);
            Made.give(x, 0, 1, 2, 70, 79);
            Made.give(x, 2, 70, 79, 3, 64, 79, 0);
            String call = "10: combine(0, 2, " + how + ")";
            check.due(call, x.combine(0, 2, how), counts[how]);
            check.due(call + ", just relation", x.has(0, 1, 2), how != 1);
            check.due(call + ", both", x.has(0, 70, 79), how < 2);
            check.due(call + ", just other", x.has(0, 3, 64), how == 0 || how == 3);
            check.due(call + ", just other", x.has(0, 79, 0), how == 0 || how == 3);
            dueJust(call + ", other", x, 2, 70, 79, 3, 64, 79, 0);
            check.due(call + " with itself", x.combine(2, 2, how), how < 2 ? 3 : 0);
            x.set(0, 0, 0, true);
            check.refusesArgument("10: how -1", () -> x.combine(0, 2, -1));
            check.refusesArgument("10: how 4", () -> x.combine(0, 2, 4));
            check.refusesIndex("10: relation before how", () -> x.combine(4, 0, 4));
            check.refusesIndex("10: other before how", () -> x.combine(0, -1, -1));
            check.due("10: a refused combine changes nothing", x.count(0), counts[how] + 1);
        }
    }

    private static void promise11Compose() {
        Relationrows x = Made.of(80);
        Made.give(x, 0, 0, 70, 0, 1, 5, 63, 6, 6, 7, 9);
        Made.give(x, 1, 70, 79, 1, 79, 63, 0, 6, 6, 64, 64);
        Made.give(x, 2, 2, 2);
        check.due("11: compose(0, 1, 2)", x.compose(0, 1, 2), 3);
        dueJust("11: compose(0, 1, 2)", x, 2, 0, 79, 5, 0, 6, 6);
        dueJust("11: the first stays", x, 0, 0, 70, 0, 1, 5, 63, 6, 6, 7, 9);
        dueJust("11: the second stays", x, 1, 70, 79, 1, 79, 63, 0, 6, 6, 64, 64);
        x.copy(0, 3);
        check.due("11: into the first", x.compose(3, 1, 3), 3);
        check.due("11: into the first", x.compare(3, 2), 0);
        x.copy(1, 3);
        check.due("11: into the second", x.compose(0, 3, 3), 3);
        check.due("11: into the second", x.compare(3, 2), 0);
        x.begin(5);
        x.chain(0);
        check.due("11: the three the same", x.compose(0, 0, 0), 3);
        dueJust("11: the three the same", x, 0, 0, 2, 1, 3, 2, 4);
        check.due("11: the three again", x.compose(0, 0, 0), 1);
        check.due("11: the three again", x.compose(0, 0, 0), 0);
        x.chain(0);
        x.turn(0);
        check.due("11: backwards, the three the same", x.compose(0, 0, 0), 3);
        dueJust("11: backwards", x, 0, 4, 2, 3, 1, 2, 0);
        check.refusesIndex("11: compose(4, 0, 0)", () -> x.compose(4, 0, 0));
        check.refusesIndex("11: compose(0, 4, 0)", () -> x.compose(0, 4, 0));
        check.refusesIndex("11: compose(0, 0, 4)", () -> x.compose(0, 0, 4));
        check.refusesIndex("11: compose(0, 0, -1)", () -> x.compose(0, 0, -1));
        check.due("11: a refused compose changes nothing", x.count(0), 3);
        Relationrows one = Made.of(1);
        one.set(0, 0, 0, true);
        check.due("11: one element", one.compose(0, 0, 1), 1);
        check.due("11: one element", one.compose(0, 2, 1), 0);
        Relationrows y = Made.of(80);
        y.oppose(0);
        check.due("11: all pairs", y.compose(0, 0, 0), 6400);
        y.begin(3);
        check.due("11: nothing is left of before", y.compose(0, 0, 0), 0);
        y.begin(80);
        check.due("11: nothing is left of before", y.compose(0, 0, 0), 0);
    }

    private static void promise12Turn() {
        Relationrows x = Made.of(80);
        Made.give(x, 1, 0, 79, 63, 64, 64, 65, 2, 2, 3, 4, 4, 3);
        check.due("12: turn", x.turn(1), 6);
        dueJust("12: turned", x, 1, 79, 0, 64, 63, 65, 64, 2, 2, 3, 4, 4, 3);
        check.due("12: turn back", x.turn(1), 6);
        dueJust("12: turned back", x, 1, 0, 79, 63, 64, 64, 65, 2, 2, 3, 4, 4, 3);
        check.due("12: no pairs", x.turn(0), 0);
        check.refusesIndex("12: relation 4", () -> x.turn(4));
        check.refusesIndex("12: relation -1", () -> x.turn(-1));
        Relationrows one = Made.of(1);
        one.set(0, 0, 0, true);
        check.due("12: one element", one.turn(0), 1);
    }

    private static void promise13Oppose() {
        int[] sizes = {1, 2, 12, 63, 64, 65, 79, 80};
        for (int size : sizes) {
            Relationrows x = Made.of(size);
            check.due("13: none of " + size, x.oppose(2), size * size);
            check.due("13: the last pair", x.has(2, size - 1, size - 1), true);
            check.due("13: word 1", x.wordOf(2, 0, 1),
                    size <= 64 ? 0L : (1L << size - 64) - 1L);
            check.due("13: all of " + size, x.oppose(2), 0);
            x.set(2, 0, size - 1, true);
            check.due("13: one pair", x.oppose(2), size * size - 1);
            check.due("13: one pair", x.has(2, 0, size - 1), false);
        }
        Relationrows x = new Relationrows();
        check.refusesIndex("13: relation 4", () -> x.oppose(4));
        check.refusesIndex("13: relation -1", () -> x.oppose(-1));
    }

    private static void promise14Close() {
        Relationrows x = Made.of(80);
        x.chain(0);
        check.due("14: a chain", x.close(0, false), 80 * 79 / 2);
        check.due("14: no own pair", x.has(0, 40, 40), false);
        check.due("14: far", x.has(0, 0, 79), true);
        check.due("14: not back", x.has(0, 79, 0), false);
        check.due("14: closed again", x.close(0, false), 80 * 79 / 2);
        check.due("14: with own", x.close(0, true), 80 * 81 / 2);
        check.due("14: own stay", x.close(0, false), 80 * 81 / 2);
        x.chain(1);
        x.turn(1);
        check.due("14: backwards", x.close(1, false), 80 * 79 / 2);
        check.due("14: backwards", x.has(1, 79, 0), true);
        x.begin(6);
        Made.give(x, 2, 4, 2, 2, 0, 0, 4, 0, 5, 1, 1);
        check.due("14: a ring", x.close(2, false), 13);
        check.due("14: on the ring", x.has(2, 2, 2), true);
        check.due("14: off the ring", x.has(2, 2, 5), true);
        check.due("14: not from the end", x.countOf(2, 5), 0);
        check.due("14: own pairs", x.close(2, true), 15);
        check.due("14: no pairs", x.close(3, false), 0);
        check.due("14: no pairs but own", x.close(3, true), 6);
        check.due("14: one element", Made.of(1).close(0, false), 0);
        check.due("14: one element, own", Made.of(1).close(0, true), 1);
        check.refusesIndex("14: relation 4", () -> x.close(4, true));
        check.refusesIndex("14: relation -1", () -> x.close(-1, false));
    }

    private static void promise15Cover() {
        Relationrows x = Made.of(80);
        x.chain(0);
        x.set(0, 0, 79, true);
        x.set(0, 3, 70, true);
        Made.give(x, 1, 9, 9, 70, 1);
        check.due("15: cover(0, 1)", x.cover(0, 1), 79);
        x.chain(2);
        check.due("15: a chain", x.compare(1, 2), 0);
        check.due("15: relation stays", x.count(0), 81);
        x.close(0, false);
        check.due("15: into itself", x.cover(0, 0), 79);
        check.due("15: into itself", x.compare(0, 2), 0);
        x.begin(6);
        Made.give(x, 0, 0, 1, 0, 2, 1, 3, 2, 3, 0, 3, 4, 3);
        check.due("15: a diamond", x.cover(0, 3), 5);
        dueJust("15: a diamond", x, 3, 0, 1, 0, 2, 1, 3, 2, 3, 4, 3);
        Made.give(x, 1, 5, 4, 4, 3, 5, 3);
        check.due("15: not closed", x.cover(1, 1), 2);
        dueJust("15: not closed", x, 1, 5, 4, 4, 3);
        Made.give(x, 2, 0, 1, 1, 2, 2, 0);
        check.refusesState("15: a ring", () -> x.cover(2, 3));
        check.refusesState("15: a ring into itself", () -> x.cover(2, 2));
        check.due("15: a refused cover changes nothing", x.count(3), 5);
        check.due("15: a refused cover changes nothing", x.count(2), 3);
        Made.give(x, 0, 5, 5);
        check.refusesState("15: a ring of one step", () -> x.cover(0, 3));
        check.refusesIndex("15: into before a ring", () -> x.cover(2, 4));
        check.refusesIndex("15: into before a ring", () -> x.cover(2, -1));
        check.refusesIndex("15: relation 4", () -> x.cover(4, 3));
        check.refusesIndex("15: relation -1", () -> x.cover(-1, 3));
        check.due("15: a refused cover changes nothing", x.count(3), 5);
        check.due("15: one element", Made.of(1).cover(0, 0), 0);
    }

    public static void main(String[] args) {
        promise9Copy();
        promise10Combine();
        promise11Compose();
        promise12Turn();
        promise13Oppose();
        promise14Close();
        promise15Cover();
        check.end();
    }
}
