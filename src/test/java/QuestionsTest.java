/** Promises 16 to 23: questions about pairs. */
public final class QuestionsTest {
    private static final Check check = new Check("QuestionsTest");

    private static void promise16Has() {
        Relationrows x = Made.of(80);
        Made.give(x, 3, 0, 64, 64, 0, 79, 79, 63, 63);
        check.due("16: 0, 64", x.has(3, 0, 64), true);
        check.due("16: 0, 0", x.has(3, 0, 0), false);
        check.due("16: 64, 0", x.has(3, 64, 0), true);
        check.due("16: 64, 64", x.has(3, 64, 64), false);
        check.due("16: 79, 79", x.has(3, 79, 79), true);
        check.due("16: 79, 15", x.has(3, 79, 15), false);
        check.due("16: 63, 63", x.has(3, 63, 63), true);
        check.due("16: another relation", x.has(2, 63, 63), false);
        check.refusesIndex("16: relation 4", () -> x.has(4, 0, 0));
        check.refusesIndex("16: relation -1", () -> x.has(-1, 0, 0));
        check.refusesIndex("16: from 80", () -> x.has(3, 80, 0));
        check.refusesIndex("16: from -1", () -> x.has(3, -1, 0));
        check.refusesIndex("16: to 80", () -> x.has(3, 0, 80));
        check.refusesIndex("16: to -1", () -> x.has(3, 0, -1));
        Relationrows less = Made.of(64);
        check.refusesIndex("16: to 64 of 64", () -> less.has(0, 0, 64));
    }

    private static void promise17Count() {
        Relationrows x = Made.of(80);
        check.due("17: none", x.count(1), 0);
        Made.give(x, 1, 0, 0, 79, 79, 79, 63, 79, 64);
        check.due("17: some", x.count(1), 4);
        check.due("17: others", x.count(0) + x.count(2) + x.count(3), 0);
        x.oppose(1);
        check.due("17: many", x.count(1), 6396);
        check.refusesIndex("17: relation 4", () -> x.count(4));
        check.refusesIndex("17: relation -1", () -> x.count(-1));
        check.refusesIndex("17: far", () -> x.count(Integer.MIN_VALUE));
    }

    private static void promise18CountOf() {
        Relationrows x = Made.of(80);
        x.setRange(2, 64, 60, 80, true);
        x.setRange(2, 63, 0, 3, true);
        check.due("18: row 64", x.countOf(2, 64), 20);
        check.due("18: row 63", x.countOf(2, 63), 3);
        check.due("18: row 62", x.countOf(2, 62), 0);
        check.due("18: another relation", x.countOf(1, 64), 0);
        check.refusesIndex("18: relation 4", () -> x.countOf(4, 0));
        check.refusesIndex("18: relation -1", () -> x.countOf(-1, 0));
        check.refusesIndex("18: from 80", () -> x.countOf(2, 80));
        check.refusesIndex("18: from -1", () -> x.countOf(2, -1));
        x.begin(1);
        x.set(0, 0, 0, true);
        check.due("18: one element", x.countOf(0, 0), 1);
    }

    private static void promise19Beside() {
        int[] sizes = {1, 12, 64, 65, 80};
        for (int size : sizes) {
            besideAsLooked(size, 5);
            besideAsLooked(size, 6);
        }
        Relationrows x = Made.of(80);
        for (int how = 0; how < 4; how++) {
            int none = how == 0 || how == 2 ? Relationrows.NONE : 40;
            check.due("19: an empty row", x.beside(0, 1, 40, how), none);
        }
        x.setRange(0, 1, 0, 80, true);
        for (int how = 0; how < 4; how++) {
            int none = how == 0 || how == 2 ? 40 : Relationrows.NONE;
            check.due("19: a full row", x.beside(0, 1, 40, how), none);
        }
        x.setRange(0, 1, 1, 79, false);
        check.due("19: up", x.beside(0, 1, 1, 0), 79);
        check.due("19: down", x.beside(0, 1, 78, 2), 0);
        check.due("19: up out", x.beside(0, 1, 0, 1), 1);
        check.due("19: down out", x.beside(0, 1, 79, 3), 78);
        check.due("19: the row stays", x.countOf(0, 1), 2);
        check.refusesArgument("19: how -1", () -> x.beside(0, 1, 1, -1));
        check.refusesArgument("19: how 4", () -> x.beside(0, 1, 1, 4));
        check.refusesIndex("19: relation before how", () -> x.beside(4, 1, 1, 4));
        check.refusesIndex("19: from before how", () -> x.beside(0, 80, 1, 4));
        check.refusesIndex("19: from -1", () -> x.beside(0, -1, 1, 0));
        check.refusesIndex("19: place before how", () -> x.beside(0, 1, 80, -1));
        check.refusesIndex("19: place -1", () -> x.beside(0, 1, -1, 0));
    }

    private static void besideAsLooked(int size, int part) {
        boolean[] in = new boolean[size];
        Relationrows x = Made.of(size);
        for (int to = 0; to < size; to++) {
            in[to] = to * to % part < 2;
            x.set(1, size - 1, to, in[to]);
        }
        for (int place = 0; place < size; place++) {
            for (int how = 0; how < 4; how++) {
                boolean wanted = how == 0 || how == 2;
                int found = place;
                while (found >= 0 && found < size && in[found] != wanted) {
                    found += how < 2 ? 1 : -1;
                }
                int due = found < 0 || found >= size ? -1 : found;
                check.due("19: beside " + place + ", " + how + " of " + size,
                        x.beside(1, size - 1, place, how), due);
            }
        }
    }

    private static void promise20WordOf() {
        Relationrows x = Made.of(80);
        Made.give(x, 0, 7, 0, 7, 63, 7, 64, 7, 79);
        check.due("20: word 0", x.wordOf(0, 7, 0), 0x8000000000000001L);
        check.due("20: word 1", x.wordOf(0, 7, 1), 0x8001L);
        check.due("20: another row", x.wordOf(0, 6, 0), 0L);
        check.due("20: another row", x.wordOf(0, 8, 1), 0L);
        check.refusesArgument("20: word 2", () -> x.wordOf(0, 7, 2));
        check.refusesArgument("20: word -1", () -> x.wordOf(0, 7, -1));
        check.refusesIndex("20: relation before word", () -> x.wordOf(4, 7, 2));
        check.refusesIndex("20: relation -1", () -> x.wordOf(-1, 7, 0));
        check.refusesIndex("20: from before word", () -> x.wordOf(0, 80, -1));
        check.refusesIndex("20: from -1", () -> x.wordOf(0, -1, 0));
        Relationrows less = Made.of(12);
        less.oppose(3);
        check.due("20: word 0 of 12", less.wordOf(3, 0, 0), 4095L);
        check.due("20: word 1 of 12", less.wordOf(3, 0, 1), 0L);
        Relationrows more = Made.of(65);
        more.oppose(3);
        check.due("20: word 0 of 65", more.wordOf(3, 64, 0), -1L);
        check.due("20: word 1 of 65", more.wordOf(3, 64, 1), 1L);
    }

    private static void promise21Meet() {
        Relationrows x = Made.of(80);
        Made.give(x, 0, 1, 63, 1, 64, 2, 79, 3, 5);
        Made.give(x, 1, 4, 63, 5, 64, 6, 79, 7, 5, 7, 6, 8, 15, 9, 0);
        check.due("21: by 63", x.meet(0, 1, 1, 4), true);
        check.due("21: by 64", x.meet(0, 1, 1, 5), true);
        check.due("21: by 79", x.meet(0, 2, 1, 6), true);
        check.due("21: by 5", x.meet(0, 3, 1, 7), true);
        check.due("21: 79 and 15", x.meet(0, 2, 1, 8), false);
        check.due("21: 64 and 0", x.meet(0, 1, 1, 9), false);
        check.due("21: none", x.meet(0, 1, 1, 6), false);
        check.due("21: turned", x.meet(1, 6, 0, 2), true);
        check.due("21: an empty row", x.meet(0, 0, 0, 0), false);
        check.due("21: itself", x.meet(0, 2, 0, 2), true);
        check.due("21: of one relation", x.meet(0, 2, 0, 1), false);
        check.refusesIndex("21: relation 4", () -> x.meet(4, 1, 1, 4));
        check.refusesIndex("21: relation -1", () -> x.meet(-1, 1, 1, 4));
        check.refusesIndex("21: from 80", () -> x.meet(0, 80, 1, 4));
        check.refusesIndex("21: from -1", () -> x.meet(0, -1, 1, 4));
        check.refusesIndex("21: other 4", () -> x.meet(0, 1, 4, 4));
        check.refusesIndex("21: other -1", () -> x.meet(0, 1, -1, 4));
        check.refusesIndex("21: at 80", () -> x.meet(0, 1, 1, 80));
        check.refusesIndex("21: at -1", () -> x.meet(0, 1, 1, -1));
    }

    private static void promise22Compare() {
        Relationrows x = Made.of(80);
        check.due("22: both empty", x.compare(0, 1), 0);
        Made.give(x, 0, 70, 79);
        check.due("22: more in the high word", x.compare(0, 1), 1);
        check.due("22: less in the high word", x.compare(1, 0), 2);
        Made.give(x, 1, 70, 79, 79, 3);
        check.due("22: less in the low word", x.compare(0, 1), 2);
        check.due("22: more in the low word", x.compare(1, 0), 1);
        Made.give(x, 0, 0, 0);
        check.due("22: each has its own", x.compare(0, 1), 3);
        check.due("22: each has its own", x.compare(1, 0), 3);
        Made.give(x, 1, 0, 0);
        Made.give(x, 0, 79, 3);
        check.due("22: the same", x.compare(0, 1), 0);
        check.due("22: with itself", x.compare(1, 1), 0);
        Made.give(x, 2, 5, 5);
        check.due("22: nothing shared", x.compare(0, 2), 3);
        check.refusesIndex("22: relation 4", () -> x.compare(4, 0));
        check.refusesIndex("22: relation -1", () -> x.compare(-1, 0));
        check.refusesIndex("22: other 4", () -> x.compare(0, 4));
        check.refusesIndex("22: other -1", () -> x.compare(0, -1));
    }

    /** Checks is() for all six questions: one letter each, y for yes. */
    private static void dueTraits(String name, Relationrows x, int relation, String due) {
        StringBuilder got = new StringBuilder();
        for (int what = 0; what < 6; what++) {
            got.append(x.is(relation, what) ? 'y' : 'n');
        }
        check.dueText("23: " + name, got.toString(), due);
    }

    private static void promise23Is() {
        Relationrows x = Made.of(80);
        dueTraits("no pairs", x, 0, "nyyyyn");
        x.oppose(0);
        dueTraits("all pairs", x, 0, "ynynyy");
        x.set(0, 79, 79, false);
        dueTraits("all but the last own pair", x, 0, "nnynny");
        x.set(0, 79, 79, true);
        x.set(0, 0, 79, false);
        dueTraits("all but one pair", x, 0, "ynnnny");
        x.set(0, 79, 0, false);
        dueTraits("all but two pairs", x, 0, "ynynnn");
        x.chain(1);
        dueTraits("a chain", x, 1, "nynynn");
        x.close(1, false);
        dueTraits("a closed chain", x, 1, "nynyyy");
        x.close(1, true);
        dueTraits("an order", x, 1, "ynnyyy");
        x.set(1, 78, 79, false);
        dueTraits("an order but a pair", x, 1, "ynnyyn");
        x.set(1, 0, 79, false);
        dueTraits("an order but two pairs", x, 1, "ynnynn");
        Made.give(x, 2, 70, 70);
        dueTraits("one own pair", x, 2, "nnyyyn");
        Made.give(x, 2, 70, 3);
        dueTraits("own pair and a pair", x, 2, "nnnyyn");
        Made.give(x, 2, 3, 70);
        dueTraits("two steps back to 3", x, 2, "nnynnn");
        Made.give(x, 2, 3, 3);
        dueTraits("a class of two", x, 2, "nnynyn");
        x.begin(1);
        dueTraits("one element, no pair", x, 0, "nyyyyy");
        x.set(0, 0, 0, true);
        dueTraits("one element and its pair", x, 0, "ynyyyy");
        x.begin(3);
        Made.give(x, 3, 0, 1, 1, 2, 2, 0);
        dueTraits("a ring of three", x, 3, "nynyny");
        check.refusesArgument("23: what -1", () -> x.is(0, -1));
        check.refusesArgument("23: what 6", () -> x.is(0, 6));
        check.refusesIndex("23: relation before what", () -> x.is(4, 6));
        check.refusesIndex("23: relation before what", () -> x.is(-1, -1));
        check.refusesIndex("23: relation 4", () -> x.is(4, 0));
    }

    public static void main(String[] args) {
        promise16Has();
        promise17Count();
        promise18CountOf();
        promise19Beside();
        promise20WordOf();
        promise21Meet();
        promise22Compare();
        promise23Is();
        check.end();
    }
}
