/** Promises 34 to 36: measures and the theorem. */
public final class MeasuresTest {
    private static final Check check = new Check("MeasuresTest");

    private static void promise34MeanRow() {
        Relationrows x = Made.of(3);
        check.dueExactly("34: no pairs", x.meanRow(0), 0.0);
        x.chain(0);
        check.dueExactly("34: 2 pairs of 3", x.meanRow(0), 2.0 / 3.0);
        x.oppose(1);
        check.dueExactly("34: all pairs", x.meanRow(1), 3.0);
        x.begin(7);
        x.chain(3);
        x.set(3, 0, 0, true);
        x.set(3, 0, 2, true);
        x.set(3, 0, 3, true);
        x.set(3, 0, 4, true);
        check.dueExactly("34: 10 pairs of 7", x.meanRow(3), 10.0 / 7.0);
        x.begin(80);
        x.chain(2);
        check.dueExactly("34: a chain of 80", x.meanRow(2), 79.0 / 80.0);
        x.begin(1);
        x.oppose(1);
        check.dueExactly("34: one element", x.meanRow(1), 1.0);
        check.dueExactly("34: one element, no pair", x.meanRow(0), 0.0);
        check.refusesIndex("34: relation 4", () -> x.meanRow(4));
        check.refusesIndex("34: relation -1", () -> x.meanRow(-1));
    }

    private static void promise35Share() {
        Relationrows x = Made.of(3);
        check.dueExactly("35: no pairs", x.share(0), 0.0f);
        x.chain(0);
        check.dueExactly("35: 2 pairs of 9", x.share(0), 2.0f / 9.0f);
        x.oppose(1);
        check.dueExactly("35: all pairs", x.share(1), 1.0f);
        x.begin(80);
        x.chain(2);
        check.dueExactly("35: a chain of 80", x.share(2), 79.0f / 6400.0f);
        x.begin(65);
        x.oppose(3);
        x.set(3, 64, 64, false);
        check.dueExactly("35: all but one of 65", x.share(3), 4224.0f / 4225.0f);
        x.begin(1);
        x.oppose(1);
        check.dueExactly("35: one element", x.share(1), 1.0f);
        check.dueExactly("35: one element, no pair", x.share(0), 0.0f);
        check.refusesIndex("35: relation 4", () -> x.share(4));
        check.refusesIndex("35: relation -1", () -> x.share(-1));
    }

    private static void promise36Errors() {
        int[] sizes = {1, 2, 3, 12, 63, 64, 65, 80};
        int[] draws = {0, 3, 20, 70, 150, 200};
        for (int size : sizes) {
            for (int i = 0; i < draws.length; i++) {
                Relationrows x = Made.of(size);
                x.draw(0, i + 1, draws[i]);
                x.draw(1, i + 77, draws[draws.length - 1 - i]);
                x.chain(2);
                x.draw(2, 5, i % 2 * 4);
                x.draw(3, 9, 9);
                x.mark(0, size / 2, true);
                long before = stateOf(x, size);
                check.due("36: errors of " + size, x.errors(), 0);
                check.due("36: errors changes nothing", stateOf(x, size), before);
            }
        }
        Relationrows order = Made.of(80);
        order.chain(0);
        order.close(0, false);
        order.chain(1);
        order.turn(1);
        order.oppose(2);
        check.due("36: an order, a chain back, all pairs", order.errors(), 0);
        Relationrows fresh = new Relationrows();
        check.due("36: a new object", fresh.errors(), 0);
    }

    // At most 170 of an object's 512 calls, so that the state can be looked at twice.
    private static long stateOf(Relationrows x, int size) {
        long state = x.endOfMarks() * 81L + x.mark(0, 0, true);
        for (int relation = 0; relation < 4; relation++) {
            state = state * 31 + x.count(relation);
            for (int from = relation % 2; from < size; from += size < 20 ? 1 : 4) {
                state = state * 31 + x.wordOf(relation, from, 0);
                state = state * 31 + x.wordOf(relation, from, 1);
            }
        }
        return state;
    }

    public static void main(String[] args) {
        promise34MeanRow();
        promise35Share();
        promise36Errors();
        check.end();
    }
}
