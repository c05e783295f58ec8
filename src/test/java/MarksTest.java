import java.util.NoSuchElementException;

/** Promises 30 to 33: marks. */
public final class MarksTest {
    private static final Check check = new Check("MarksTest");

    private static void dueMarked(String name, Relationrows x, int... due) {
        for (int i = 0; i < due.length; i++) {
            check.due(name + " at " + i, x.markedAt(i), due[i]);
        }
        check.refuses(name + " beyond", NoSuchElementException.class,
                () -> x.markedAt(due.length));
        check.due(name + " end", x.endOfMarks(), due.length == 0 ? 0 : due[due.length - 1] + 1);
    }

    private static void promise30Mark() {
        Relationrows x = Made.of(80);
        check.due("30: all", x.mark(0, 80, true), 80);
        check.due("30: a part away", x.mark(2, 78, false), 4);
        dueMarked("30: the rest", x, 0, 1, 78, 79);
        check.due("30: around 64", x.mark(63, 65, true), 6);
        dueMarked("30: more", x, 0, 1, 63, 64, 78, 79);
        check.due("30: marked already", x.mark(63, 65, true), 6);
        check.due("30: empty at 0", x.mark(0, 0, false), 6);
        check.due("30: empty at 80", x.mark(80, 80, true), 6);
        check.due("30: not marked already", x.mark(2, 60, false), 6);
        check.refusesIndex("30: first -1", () -> x.mark(-1, 80, false));
        check.refusesIndex("30: end 81", () -> x.mark(0, 81, false));
        check.refusesIndex("30: first above end", () -> x.mark(2, 1, false));
        check.refusesIndex("30: both above", () -> x.mark(81, 81, false));
        check.refusesIndex("30: far", () -> x.mark(Integer.MIN_VALUE, Integer.MAX_VALUE, false));
        dueMarked("30: a refused mark changes nothing", x, 0, 1, 63, 64, 78, 79);
        Relationrows one = Made.of(1);
        check.due("30: one element", one.mark(0, 1, true), 1);
        check.due("30: one element", one.mark(1, 1, false), 1);
        check.due("30: pairs stay", x.count(0), 0);
        Relationrows usual = new Relationrows();
        check.refusesIndex("30: end 13 of 12", () -> usual.mark(0, 13, true));
        check.due("30: end 12 of 12", usual.mark(0, 12, true), 12);
    }

    private static void promise31Spread() {
        Relationrows x = Made.of(80);
        x.chain(0);
        x.mark(63, 64, true);
        x.mark(79, 80, true);
        check.due("31: a step", x.spread(0, false), 1);
        dueMarked("31: a step", x, 64);
        check.due("31: a step, own too", x.spread(0, true), 2);
        dueMarked("31: own too", x, 64, 65);
        check.due("31: just one step", x.spread(0, true), 3);
        check.due("31: no pairs, own too", x.spread(1, true), 3);
        dueMarked("31: those stay", x, 64, 65, 66);
        x.setRange(2, 66, 0, 3, true);
        x.setRange(2, 64, 1, 4, true);
        x.setRange(2, 0, 10, 80, true);
        check.due("31: to several", x.spread(2, false), 4);
        dueMarked("31: to several", x, 0, 1, 2, 3);
        check.refusesIndex("31: relation 4", () -> x.spread(4, false));
        check.refusesIndex("31: relation -1", () -> x.spread(-1, true));
        dueMarked("31: a refused spread changes nothing", x, 0, 1, 2, 3);
        check.due("31: no pairs", x.spread(1, false), 0);
        check.due("31: no marks", x.spread(0, true), 0);
        check.due("31: pairs stay", x.count(0), 79);
        Relationrows one = Made.of(1);
        one.mark(0, 1, true);
        one.set(3, 0, 0, true);
        check.due("31: one element", one.spread(3, false), 1);
        check.due("31: one element", one.spread(2, false), 0);
    }

    private static void promise32MarkedAt() {
        Relationrows x = Made.of(80);
        check.refuses("32: none", NoSuchElementException.class, () -> x.markedAt(0));
        x.mark(5, 6, true);
        x.mark(63, 66, true);
        dueMarked("32: four", x, 5, 63, 64, 65);
        check.refuses("32: -1", NoSuchElementException.class, () -> x.markedAt(-1));
        check.refuses("32: least", NoSuchElementException.class,
                () -> x.markedAt(Integer.MIN_VALUE));
        check.refuses("32: greatest", NoSuchElementException.class,
                () -> x.markedAt(Integer.MAX_VALUE));
        x.mark(0, 80, true);
        check.due("32: the last of all", x.markedAt(79), 79);
        check.refuses("32: 80 of all", NoSuchElementException.class, () -> x.markedAt(80));
    }

    private static void promise33EndOfMarks() {
        Relationrows x = Made.of(80);
        check.due("33: none", x.endOfMarks(), 0);
        x.mark(0, 1, true);
        check.due("33: the first", x.endOfMarks(), 1);
        x.mark(3, 64, true);
        check.due("33: 63", x.endOfMarks(), 64);
        x.mark(64, 65, true);
        check.due("33: 64", x.endOfMarks(), 65);
        x.mark(79, 80, true);
        check.due("33: the last", x.endOfMarks(), 80);
        x.mark(1, 80, false);
        check.due("33: the first again", x.endOfMarks(), 1);
        x.mark(0, 1, false);
        check.due("33: none again", x.endOfMarks(), 0);
    }

    public static void main(String[] args) {
        promise30Mark();
        promise31Spread();
        promise32MarkedAt();
        promise33EndOfMarks();
        check.end();
    }
}
