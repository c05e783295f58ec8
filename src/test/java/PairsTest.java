/** Promises 1 to 8: a new object, begin, and the calls that tell pairs. */
public final class PairsTest {
    private static final Check check = new Check("PairsTest");

    private static void promise1NewObject() {
        Relationrows x = new Relationrows();
        for (int relation = 0; relation < 4; relation++) {
            check.due("1: count(" + relation + ")", x.count(relation), 0);
            check.due("1: wordOf", x.wordOf(relation, 11, 0), 0);
            check.due("1: oppose tells 12 elements", x.oppose(relation), 144);
        }
        check.refusesIndex("1: count(4)", () -> x.count(4));
        check.refusesIndex("1: count(-1)", () -> x.count(-1));
        check.refusesIndex("1: has(0, 12, 0)", () -> x.has(0, 12, 0));
        check.due("1: endOfMarks", x.endOfMarks(), 0);
        check.refuses("1: markedAt(0)", java.util.NoSuchElementException.class,
                () -> x.markedAt(0));
        check.due("1: begin tells 12", x.begin(12), 12);
        Relationrows y = new Relationrows();
        x.set(0, 1, 1, true);
        check.due("1: objects are apart", y.count(0), 0);
    }

    private static void promise2Begin() {
        Relationrows x = new Relationrows();
        for (int relation = 0; relation < 4; relation++) {
            x.chain(relation);
        }
        x.mark(2, 9, true);
        check.due("2: begin(80)", x.begin(80), 12);
        for (int relation = 0; relation < 4; relation++) {
            check.due("2: count(" + relation + ")", x.count(relation), 0);
        }
        check.due("2: endOfMarks", x.endOfMarks(), 0);
        x.setRange(3, 79, 0, 80, true);
        x.mark(0, 80, true);
        check.refusesArgument("2: begin(81)", () -> x.begin(81));
        check.refusesArgument("2: begin(0)", () -> x.begin(0));
        check.refusesArgument("2: begin(-1)", () -> x.begin(-1));
        check.refusesArgument("2: begin(least)", () -> x.begin(Integer.MIN_VALUE));
        check.refusesArgument("2: begin(greatest)", () -> x.begin(Integer.MAX_VALUE));
        check.due("2: a refused begin keeps pairs", x.count(3), 80);
        check.due("2: a refused begin keeps marks", x.endOfMarks(), 80);
        check.due("2: begin(1)", x.begin(1), 80);
        check.refusesIndex("2: element 1 of 1", () -> x.has(0, 0, 1));
        check.due("2: begin(80) again", x.begin(80), 1);
        check.due("2: no old row", x.countOf(3, 79), 0);
        check.due("2: no old mark", x.spread(3, true), 0);
        check.due("2: the same number", x.begin(80), 80);
        check.due("2: begin(64)", x.begin(64), 80);
        check.refusesIndex("2: element 64 of 64", () -> x.countOf(0, 64));
        check.due("2: begin(65)", x.begin(65), 64);
        check.due("2: element 64 of 65", x.countOf(0, 64), 0);
    }

    private static void promise3Set() {
        Relationrows x = Made.of(80);
        int[] places = {0, 1, 31, 32, 33, 62, 63, 64, 65, 78, 79};
        for (int from : places) {
            for (int to : places) {
                check.due("3: new", x.set(2, from, to, true), false);
            }
        }
        check.due("3: count", x.count(2), 121);
        for (int to = 0; to < 80; to++) {
            boolean isPlace = java.util.Arrays.binarySearch(places, to) >= 0;
            check.due("3: has(2, 63, " + to + ")", x.has(2, 63, to), isPlace);
        }
        check.due("3: again", x.set(2, 64, 63, true), true);
        check.due("3: count", x.count(2), 121);
        check.due("3: away", x.set(2, 64, 63, false), true);
        check.due("3: away again", x.set(2, 64, 63, false), false);
        check.due("3: count", x.count(2), 120);
        check.due("3: the other way", x.has(2, 63, 64), true);
        check.due("3: other relations", x.count(1) + x.count(3) + x.count(0), 0);
        check.refusesIndex("3: relation -1", () -> x.set(-1, 0, 0, true));
        check.refusesIndex("3: relation 4", () -> x.set(4, 0, 0, true));
        check.refusesIndex("3: from -1", () -> x.set(2, -1, 2, true));
        check.refusesIndex("3: from 80", () -> x.set(2, 80, 2, true));
        check.refusesIndex("3: to -1", () -> x.set(2, 2, -1, true));
        check.refusesIndex("3: to 80", () -> x.set(2, 2, 80, true));
        check.refusesIndex("3: far", () -> x.set(2, Integer.MAX_VALUE, Integer.MIN_VALUE, true));
        check.due("3: a refused set changes nothing", x.count(2), 120);
    }

    private static void promise4SetRange() {
        Relationrows x = Made.of(80);
        check.due("4: full", x.setRange(1, 5, 0, 80, true), 80);
        check.due("4: count", x.count(1), 80);
        check.due("4: middle away", x.setRange(1, 5, 60, 70, false), 70);
        check.due("4: has 59", x.has(1, 5, 59), true);
        check.due("4: has 60", x.has(1, 5, 60), false);
        check.due("4: has 69", x.has(1, 5, 69), false);
        check.due("4: has 70", x.has(1, 5, 70), true);
        check.due("4: up to 64", x.setRange(1, 6, 0, 64, true), 64);
        check.due("4: word 0", x.wordOf(1, 6, 0), -1L);
        check.due("4: word 1", x.wordOf(1, 6, 1), 0L);
        check.due("4: from 64", x.setRange(1, 6, 64, 80, true), 80);
        check.due("4: word 1", x.wordOf(1, 6, 1), 0xffffL);
        check.due("4: 63 to 65 away", x.setRange(1, 6, 63, 65, false), 78);
        check.due("4: word 0", x.wordOf(1, 6, 0), Long.MAX_VALUE);
        check.due("4: word 1", x.wordOf(1, 6, 1), 0xfffeL);
        check.due("4: another row between", x.setRange(1, 7, 3, 5, true), 2);
        check.due("4: there already", x.setRange(1, 6, 10, 20, true), 78);
        check.due("4: the other row away", x.setRange(1, 7, 0, 80, false), 0);
        check.due("4: empty at 0", x.setRange(1, 6, 0, 0, false), 78);
        check.due("4: empty at 64", x.setRange(1, 6, 64, 64, true), 78);
        check.due("4: empty at the end", x.setRange(1, 6, 80, 80, true), 78);
        check.refusesIndex("4: relation 4", () -> x.setRange(4, 6, 0, 1, false));
        check.refusesIndex("4: from 80", () -> x.setRange(1, 80, 0, 1, false));
        check.refusesIndex("4: from -1", () -> x.setRange(1, -1, 0, 1, false));
        check.refusesIndex("4: first -1", () -> x.setRange(1, 6, -1, 5, false));
        check.refusesIndex("4: end 81", () -> x.setRange(1, 6, 0, 81, false));
        check.refusesIndex("4: first above end", () -> x.setRange(1, 6, 5, 4, false));
        check.refusesIndex("4: both above", () -> x.setRange(1, 6, 81, 81, false));
        check.refusesIndex("4: both below", () -> x.setRange(1, 6, -1, -1, false));
        check.due("4: a refused setRange changes nothing", x.countOf(1, 6), 78);
        check.due("4: other rows", x.count(1), 148);
        Relationrows one = Made.of(1);
        check.due("4: one element", one.setRange(0, 0, 0, 1, true), 1);
        check.due("4: one element, empty", one.setRange(0, 0, 1, 1, false), 1);
        check.due("4: one element, away", one.setRange(0, 0, 0, 1, false), 0);
        Relationrows small = new Relationrows();
        check.refusesIndex("4: end 13 of 12", () -> small.setRange(0, 0, 0, 13, true));
        check.due("4: nothing was set", small.count(0), 0);
    }

    private static void promise5FlipRange() {
        Relationrows x = Made.of(80);
        check.due("5: full", x.flipRange(3, 79, 0, 80), 80);
        check.due("5: a part", x.flipRange(3, 79, 62, 66), 76);
        check.due("5: word 0", x.wordOf(3, 79, 0), -1L >>> 2);
        check.due("5: word 1", x.wordOf(3, 79, 1), 0xfffcL);
        check.due("5: both ways", x.flipRange(3, 79, 60, 66), 78);
        check.due("5: another row between", x.flipRange(3, 10, 5, 20), 15);
        check.due("5: full back", x.flipRange(3, 79, 0, 80), 2);
        check.due("5: the other row", x.flipRange(3, 10, 5, 20), 0);
        check.due("5: has 60", x.has(3, 79, 60), true);
        check.due("5: has 61", x.has(3, 79, 61), true);
        check.due("5: empty", x.flipRange(3, 79, 80, 80), 2);
        check.due("5: empty", x.flipRange(3, 79, 0, 0), 2);
        check.refusesIndex("5: relation -1", () -> x.flipRange(-1, 79, 0, 80));
        check.refusesIndex("5: from 80", () -> x.flipRange(3, 80, 0, 80));
        check.refusesIndex("5: from -1", () -> x.flipRange(3, -1, 0, 80));
        check.refusesIndex("5: first -1", () -> x.flipRange(3, 79, -1, 80));
        check.refusesIndex("5: end 81", () -> x.flipRange(3, 79, 0, 81));
        check.refusesIndex("5: first above end", () -> x.flipRange(3, 79, 1, 0));
        check.due("5: a refused flipRange changes nothing", x.countOf(3, 79), 2);
        check.due("5: other rows", x.count(3), 2);
        Relationrows one = Made.of(1);
        check.due("5: one element", one.flipRange(0, 0, 0, 1), 1);
        check.due("5: one element back", one.flipRange(0, 0, 0, 1), 0);
    }

    private static void promise6SetRow() {
        Relationrows x = Made.of(80);
        x.setRange(0, 4, 0, 80, true);
        check.due("6: by a number", x.setRow(0, 4, 0x8000000000000005L), 3);
        check.due("6: word 0", x.wordOf(0, 4, 0), 0x8000000000000005L);
        check.due("6: word 1", x.wordOf(0, 4, 1), 0L);
        check.due("6: all bits", x.setRow(0, 4, -1L), 64);
        check.due("6: none", x.setRow(0, 4, 0L), 0);
        Relationrows full = Made.of(64);
        check.due("6: 64 elements", full.setRow(2, 63, -1L), 64);
        Relationrows less = Made.of(63);
        check.due("6: 63 elements", less.setRow(2, 62, -1L), 63);
        check.due("6: no bit 63", less.wordOf(2, 62, 0), Long.MAX_VALUE);
        Relationrows more = Made.of(65);
        check.due("6: 65 elements", more.setRow(2, 64, -1L), 64);
        check.due("6: not 64", more.has(2, 64, 64), false);
        Relationrows one = Made.of(1);
        check.due("6: one element", one.setRow(2, 0, 6L), 0);
        check.due("6: one element", one.setRow(2, 0, 7L), 1);
        check.refusesIndex("6: relation 4", () -> one.setRow(4, 0, 0L));
        check.refusesIndex("6: relation -1", () -> one.setRow(-1, 0, 0L));
        check.refusesIndex("6: from 1", () -> one.setRow(2, 1, 0L));
        check.refusesIndex("6: from -1", () -> one.setRow(2, -1, 0L));
        check.due("6: a refused setRow changes nothing", one.count(2), 1);
        Relationrows usual = new Relationrows();
        check.due("6: 12 elements", usual.setRow(1, 11, -1L), 12);
        usual.begin(80);
        check.due("6: nothing beyond", usual.count(1), 0);
    }

    private static void promise7Chain() {
        Relationrows x = Made.of(80);
        check.due("7: 80 elements", x.chain(2), 79);
        check.due("7: again", x.chain(2), 79);
        for (int from = 0; from < 80; from++) {
            check.due("7: row " + from, x.countOf(2, from), from == 79 ? 0 : 1);
            check.due("7: next " + from, from == 79 || x.has(2, from, from + 1), true);
        }
        check.due("7: 1 element", Made.of(1).chain(0), 0);
        check.due("7: 2 elements", Made.of(2).chain(0), 1);
        check.due("7: 65 elements", Made.of(65).chain(0), 64);
        Relationrows y = new Relationrows();
        y.set(1, 3, 0, true);
        y.set(1, 3, 4, true);
        check.due("7: other pairs stay", y.chain(1), 12);
        check.due("7: 3 to 0", y.has(1, 3, 0), true);
        check.refusesIndex("7: relation 4", () -> y.chain(4));
        check.refusesIndex("7: relation -1", () -> y.chain(-1));
    }

    private static void promise8Draw() {
        Relationrows x = new Relationrows();
        check.due("8: 3 draws", x.draw(0, 7, 3), 3);
        check.due("8: first", x.has(0, 0, 2), true);
        check.due("8: second", x.has(0, 8, 6), true);
        check.due("8: third", x.has(0, 11, 1), true);
        check.due("8: pairs that are there", x.draw(0, 7, 2), 3);
        x.set(0, 5, 5, true);
        check.due("8: other pairs stay", x.draw(0, 7, 0), 4);
        int[] sizes = {1, 2, 12, 63, 64, 65, 80};
        int[] seeds = {0, 1, -1, 7, 123456789, Integer.MIN_VALUE, Integer.MAX_VALUE};
        for (int size : sizes) {
            for (int seed : seeds) {
                drawsAsTold(size, seed, 200);
                drawsAsTold(size, seed, 1);
            }
        }
        check.refusesArgument("8: many -1", () -> x.draw(0, 1, -1));
        check.refusesArgument("8: many 201", () -> x.draw(0, 1, 201));
        check.refusesArgument("8: many far", () -> x.draw(0, 1, Integer.MIN_VALUE));
        check.refusesIndex("8: relation 4", () -> x.draw(4, 1, 1));
        check.refusesIndex("8: relation comes first", () -> x.draw(-1, 1, 201));
        check.due("8: a refused draw changes nothing", x.count(0), 4);
    }

    // The draws are told in numbers that do not go round, so that ints that do are checked.
    private static void drawsAsTold(int size, int seed, int many) {
        boolean[][] due = new boolean[size][size];
        int pairs = 0;
        long state = seed & 0xffffffffL;
        for (int i = 0; i < many; i++) {
            state = (state * 1103515245L + 12345L) & 0xffffffffL;
            int from = (int) ((state >> 16) % size);
            state = (state * 1103515245L + 12345L) & 0xffffffffL;
            int to = (int) ((state >> 16) % size);
            pairs += due[from][to] ? 0 : 1;
            due[from][to] = true;
        }
        Relationrows x = Made.of(size);
        String call = "8: draw(1, " + seed + ", " + many + ") of " + size;
        check.due(call, x.draw(1, seed, many), pairs);
        for (int from = 0; from < size; from++) {
            long low = 0L;
            long high = 0L;
            for (int to = 0; to < size; to++) {
                if (due[from][to]) {
                    low |= to < 64 ? 1L << to : 0L;
                    high |= to < 64 ? 0L : 1L << to - 64;
                }
            }
            check.due(call + ", row " + from, x.wordOf(1, from, 0), low);
            check.due(call + ", row " + from, x.wordOf(1, from, 1), high);
        }
    }

    public static void main(String[] args) {
        promise1NewObject();
        promise2Begin();
        promise3Set();
        promise4SetRange();
        promise5FlipRange();
        promise6SetRow();
        promise7Chain();
        promise8Draw();
        check.end();
    }
}
