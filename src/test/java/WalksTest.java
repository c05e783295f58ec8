/** Promises 24 to 29: walks, classes and orders. */
public final class WalksTest {
    private static final Check check = new Check("WalksTest");

    private static void promise24Steps() {
        Relationrows x = Made.of(80);
        x.chain(0);
        check.due("24: the whole chain", x.steps(0, 0, 79), 79);
        check.due("24: one step", x.steps(0, 63, 64), 1);
        check.due("24: not back", x.steps(0, 79, 0), -1);
        check.due("24: not to itself", x.steps(0, 5, 5), -1);
        x.set(0, 79, 0, true);
        check.due("24: the whole ring", x.steps(0, 5, 5), 80);
        check.due("24: around the ring", x.steps(0, 5, 4), 79);
        x.set(0, 5, 5, true);
        check.due("24: an own pair", x.steps(0, 5, 5), 1);
        x.set(0, 2, 70, true);
        check.due("24: a short way", x.steps(0, 0, 72), 5);
        check.due("24: no pairs", x.steps(1, 0, 1), -1);
        check.due("24: the relation stays", x.count(0), 82);
        check.refusesIndex("24: relation 4", () -> x.steps(4, 0, 1));
        check.refusesIndex("24: relation -1", () -> x.steps(-1, 0, 1));
        check.refusesIndex("24: from 80", () -> x.steps(0, 80, 1));
        check.refusesIndex("24: from -1", () -> x.steps(0, -1, 1));
        check.refusesIndex("24: to 80", () -> x.steps(0, 0, 80));
        check.refusesIndex("24: to -1", () -> x.steps(0, 0, -1));
        x.begin(1);
        check.due("24: one element", x.steps(0, 0, 0), -1);
        x.set(0, 0, 0, true);
        check.due("24: one element", x.steps(0, 0, 0), 1);
    }

    private static void promise25ClassOf() {
        Relationrows x = Made.of(80);
        Made.give(x, 3, 79, 64, 64, 10, 10, 79, 5, 79, 10, 7, 30, 30);
        check.due("25: of 79", x.classOf(3, 79), 10);
        check.due("25: of 64", x.classOf(3, 64), 10);
        check.due("25: of 10", x.classOf(3, 10), 10);
        check.due("25: one way in", x.classOf(3, 5), 5);
        check.due("25: one way out", x.classOf(3, 7), 7);
        check.due("25: own pair", x.classOf(3, 30), 30);
        check.due("25: without pairs", x.classOf(3, 77), 77);
        Made.give(x, 3, 7, 5);
        check.due("25: a longer ring", x.classOf(3, 64), 5);
        check.due("25: a longer ring", x.classOf(3, 7), 5);
        check.due("25: the relation stays", x.count(3), 7);
        check.refusesIndex("25: relation 4", () -> x.classOf(4, 0));
        check.refusesIndex("25: relation -1", () -> x.classOf(-1, 0));
        check.refusesIndex("25: element 80", () -> x.classOf(3, 80));
        check.refusesIndex("25: element -1", () -> x.classOf(3, -1));
        check.due("25: one element", Made.of(1).classOf(0, 0), 0);
    }

    private static void promise26Classes() {
        Relationrows x = Made.of(80);
        check.due("26: no pairs", x.classes(0), 80);
        x.chain(0);
        check.due("26: a chain", x.classes(0), 80);
        x.set(0, 79, 77, true);
        check.due("26: a ring of three", x.classes(0), 78);
        x.set(0, 64, 63, true);
        check.due("26: a ring of two more", x.classes(0), 77);
        x.set(0, 79, 0, true);
        check.due("26: one ring", x.classes(0), 1);
        check.due("26: the relation stays", x.count(0), 82);
        check.due("26: one element", Made.of(1).classes(3), 1);
        check.refusesIndex("26: relation 4", () -> x.classes(4));
        check.refusesIndex("26: relation -1", () -> x.classes(-1));
    }

    private static void promise27HasRing() {
        Relationrows x = Made.of(80);
        check.due("27: no pairs", x.hasRing(2), false);
        x.chain(2);
        check.due("27: a chain", x.hasRing(2), false);
        x.close(2, false);
        check.due("27: a closed chain", x.hasRing(2), false);
        x.set(2, 79, 0, true);
        check.due("27: all pairs up and one back", x.hasRing(2), true);
        x.set(2, 79, 0, false);
        x.set(2, 64, 64, true);
        check.due("27: an own pair", x.hasRing(2), true);
        check.due("27: the relation stays", x.count(2), 80 * 79 / 2 + 1);
        Made.give(x, 1, 79, 78, 78, 79);
        check.due("27: a ring of two", x.hasRing(1), true);
        x.chain(0);
        x.set(0, 79, 0, true);
        check.due("27: a ring of all", x.hasRing(0), true);
        check.due("27: one element", Made.of(1).hasRing(0), false);
        check.refusesIndex("27: relation 4", () -> x.hasRing(4));
        check.refusesIndex("27: relation -1", () -> x.hasRing(-1));
    }

    private static void dueOrder(String name, Relationrows x, int relation, int... due) {
        for (int place = 0; place < due.length; place++) {
            check.due("28: " + name + " at " + place, x.orderAt(relation, place), due[place]);
        }
    }

    private static void promise28OrderAt() {
        Relationrows x = Made.of(6);
        dueOrder("no pairs", x, 0, 0, 1, 2, 3, 4, 5);
        Made.give(x, 0, 5, 0, 0, 2, 3, 2, 4, 1);
        dueOrder("the least one each time", x, 0, 3, 4, 1, 5, 0, 2);
        x.chain(1);
        x.turn(1);
        dueOrder("backwards", x, 1, 5, 4, 3, 2, 1, 0);
        check.due("28: the relation stays", x.count(0), 4);
        check.refusesIndex("28: place 6", () -> x.orderAt(0, 6));
        check.refusesIndex("28: place -1", () -> x.orderAt(0, -1));
        check.refusesIndex("28: relation 4", () -> x.orderAt(4, 0));
        check.refusesIndex("28: relation -1", () -> x.orderAt(-1, 0));
        Made.give(x, 2, 4, 5, 5, 4);
        check.refusesState("28: a ring behind", () -> x.orderAt(2, 0));
        check.refusesState("28: a ring behind", () -> x.orderAt(2, 5));
        check.refusesIndex("28: place before a ring", () -> x.orderAt(2, 6));
        check.refusesIndex("28: relation before a ring", () -> x.orderAt(4, 6));
        Made.give(x, 3, 2, 2);
        check.refusesState("28: an own pair", () -> x.orderAt(3, 0));
        Relationrows y = Made.of(80);
        y.chain(3);
        y.turn(3);
        for (int place = 0; place < 80; place++) {
            check.due("28: 80 backwards at " + place, y.orderAt(3, place), 79 - place);
        }
        check.refusesIndex("28: place 80", () -> y.orderAt(3, 80));
        check.due("28: one element", Made.of(1).orderAt(0, 0), 0);
    }

    private static void promise29LongestWalk() {
        Relationrows x = Made.of(80);
        check.due("29: no pairs", x.longestWalk(0), 0);
        x.chain(0);
        check.due("29: a chain", x.longestWalk(0), 79);
        x.set(0, 0, 79, true);
        x.set(0, 10, 70, true);
        check.due("29: short ways do not count", x.longestWalk(0), 79);
        x.set(0, 40, 41, false);
        check.due("29: the longer part", x.longestWalk(0), 40);
        check.due("29: the relation stays", x.count(0), 80);
        Made.give(x, 1, 79, 0);
        check.due("29: one pair", x.longestWalk(1), 1);
        Made.give(x, 1, 64, 64);
        check.refusesState("29: an own pair", () -> x.longestWalk(1));
        Made.give(x, 2, 3, 4, 4, 5, 5, 3);
        check.refusesState("29: a ring", () -> x.longestWalk(2));
        check.refusesIndex("29: relation 4", () -> x.longestWalk(4));
        check.refusesIndex("29: relation -1", () -> x.longestWalk(-1));
        Relationrows one = Made.of(1);
        check.due("29: one element", one.longestWalk(0), 0);
        one.set(0, 0, 0, true);
        check.refusesState("29: one element and its pair", () -> one.longestWalk(0));
    }

    public static void main(String[] args) {
        promise24Steps();
        promise25ClassOf();
        promise26Classes();
        promise27HasRing();
        promise28OrderAt();
        promise29LongestWalk();
        check.end();
    }
}
