import java.util.function.Supplier;

/** Long runs of calls of all kinds, wrong ones too, each answer beside that of the model. */
public final class ModelRunsTest {
    private static final int CALLS = 36;
    private static final int[] SIZES = {1, 2, 3, 5, 12, 12, 12, 31, 63, 64, 65, 79, 80};
    private static final Check check = new Check("ModelRunsTest");

    private long state;
    private int size = 12;
    private Relationrows x = new Relationrows();
    private Model model = new Model();

    private ModelRunsTest(long seed) {
        state = seed;
    }

    private int upTo(int most) {
        state = state * 6364136223846793005L + 1442695040888963407L;
        return (int) ((state >>> 33) % (most + 1));
    }

    private boolean isOnce(int in) {
        return upTo(in - 1) == 0;
    }

    private int wrongNumber(int most) {
        int[] wrong = {-1, most + 1, -2, Integer.MIN_VALUE, Integer.MAX_VALUE, most + 64};
        return wrong[upTo(wrong.length - 1)];
    }

    private int option(int most) {
        return isOnce(25) ? wrongNumber(most) : upTo(most);
    }

    private int element() {
        return isOnce(4) ? option(size - 1) : isOnce(4) ? Math.min(size - 1, 62 + upTo(3))
                : upTo(size - 1);
    }

    private int bound() {
        return isOnce(6) ? 0 : isOnce(6) ? size : isOnce(6) ? Math.min(size, 64) : option(size);
    }

    private boolean either() {
        return isOnce(2);
    }

    private static String answer(Supplier<Object> call) {
        try {
            return String.valueOf(call.get());
        } catch (RuntimeException e) {
            return "throws." + e.getClass().getSimpleName();
        }
    }

    private void compare(String call, Supplier<Object> got, Supplier<Object> due) {
        check.dueText(call + " of " + size, answer(got), answer(due));
    }

    private void begin() {
        int elements = isOnce(4) ? wrongNumber(80) : SIZES[upTo(SIZES.length - 1)];
        elements = isOnce(9) ? 0 : elements;
        int asked = elements;
        compare("begin(" + asked + ")", () -> x.begin(asked), () -> model.begin(asked));
        if (asked >= 1 && asked <= 80) {
            size = asked;
        }
    }

    private void makeCall() {
        int kind = upTo(CALLS - 1);
        int r = option(3);
        int s = option(3);
        if (kind < 9) {
            tellPairs(kind, r);
        } else if (kind < 16) {
            makeRelation(kind, r, s);
        } else if (kind < 24) {
            ask(kind, r, s);
        } else if (kind < 30) {
            walk(kind, r);
        } else {
            doMarks(kind, r);
        }
    }

    private void tellPairs(int kind, int r) {
        int from = element();
        int first = bound();
        int end = isOnce(3) ? bound() : Math.max(first, bound());
        boolean is = either();
        String rest = "(" + r + ", " + from + ", " + first + ", " + end + ", " + is + ")";
        if (kind == 1 && isOnce(3)) {
            begin();
        } else if (kind <= 2) {
            int to = element();
            compare("set to " + to + rest, () -> x.set(r, from, to, is),
                    () -> model.set(r, from, to, is));
        } else if (kind == 3) {
            compare("setRange" + rest, () -> x.setRange(r, from, first, end, is),
                    () -> model.setRange(r, from, first, end, is));
        } else if (kind == 4) {
            compare("flipRange" + rest, () -> x.flipRange(r, from, first, end),
                    () -> model.flipRange(r, from, first, end));
        } else if (kind == 5) {
            long bits = state ^ state << 29;
            compare("setRow " + bits + rest, () -> x.setRow(r, from, bits),
                    () -> model.setRow(r, from, bits));
        } else if (kind == 6) {
            compare("chain" + rest, () -> x.chain(r), () -> model.chain(r));
        } else {
            int many = isOnce(8) ? wrongNumber(200) : isOnce(3) ? upTo(200) : upTo(size);
            int seed = (int) (state >> 20);
            compare("draw " + seed + ", " + many + rest, () -> x.draw(r, seed, many),
                    () -> model.draw(r, seed, many));
        }
    }

    private void makeRelation(int kind, int r, int s) {
        int t = option(3);
        int how = option(3);
        boolean is = either();
        String rest = "(" + r + ", " + s + ", " + t + ", " + how + ", " + is + ")";
        if (kind == 9) {
            compare("copy" + rest, () -> x.copy(r, s), () -> model.copy(r, s));
        } else if (kind == 10) {
            compare("combine" + rest, () -> x.combine(r, s, how), () -> model.combine(r, s, how));
        } else if (kind == 11) {
            compare("compose" + rest, () -> x.compose(r, s, t), () -> model.compose(r, s, t));
        } else if (kind == 12) {
            compare("turn" + rest, () -> x.turn(r), () -> model.turn(r));
        } else if (kind == 13 && isOnce(3)) {
            compare("oppose" + rest, () -> x.oppose(r), () -> model.oppose(r));
        } else if (kind == 14 && isOnce(3)) {
            compare("close" + rest, () -> x.close(r, is), () -> model.close(r, is));
        } else {
            compare("cover" + rest, () -> x.cover(r, s), () -> model.cover(r, s));
        }
    }

    private void ask(int kind, int r, int s) {
        int from = element();
        int to = element();
        int option = option(kind == 20 ? 1 : kind == 23 ? 5 : 3);
        String rest = "(" + r + ", " + s + ", " + from + ", " + to + ", " + option + ")";
        if (kind == 16) {
            compare("has" + rest, () -> x.has(r, from, to), () -> model.has(r, from, to));
        } else if (kind == 17) {
            compare("count" + rest, () -> x.count(r), () -> model.count(r));
        } else if (kind == 18) {
            compare("countOf" + rest, () -> x.countOf(r, from), () -> model.countOf(r, from));
        } else if (kind == 19) {
            compare("beside" + rest, () -> x.beside(r, from, to, option),
                    () -> model.beside(r, from, to, option));
        } else if (kind == 20) {
            compare("wordOf" + rest, () -> x.wordOf(r, from, option),
                    () -> model.wordOf(r, from, option));
        } else if (kind == 21) {
            compare("meet" + rest, () -> x.meet(r, from, s, to), () -> model.meet(r, from, s, to));
        } else if (kind == 22) {
            compare("compare" + rest, () -> x.compare(r, s), () -> model.compare(r, s));
        } else {
            compare("is" + rest, () -> x.is(r, option), () -> model.is(r, option));
        }
    }

    private void walk(int kind, int r) {
        int from = element();
        int to = element();
        String rest = "(" + r + ", " + from + ", " + to + ")";
        if (kind == 24) {
            compare("steps" + rest, () -> x.steps(r, from, to), () -> model.steps(r, from, to));
        } else if (kind == 25) {
            compare("classOf" + rest, () -> x.classOf(r, from), () -> model.classOf(r, from));
        } else if (kind == 26) {
            compare("classes" + rest, () -> x.classes(r), () -> model.classes(r));
        } else if (kind == 27) {
            compare("hasRing" + rest, () -> x.hasRing(r), () -> model.hasRing(r));
        } else if (kind == 28) {
            compare("orderAt" + rest, () -> x.orderAt(r, from), () -> model.orderAt(r, from));
        } else {
            compare("longestWalk" + rest, () -> x.longestWalk(r), () -> model.longestWalk(r));
        }
    }

    private void doMarks(int kind, int r) {
        int first = bound();
        int end = isOnce(3) ? bound() : Math.max(first, bound());
        boolean is = either();
        String rest = "(" + r + ", " + first + ", " + end + ", " + is + ")";
        if (kind == 30) {
            compare("mark" + rest, () -> x.mark(first, end, is), () -> model.mark(first, end, is));
        } else if (kind == 31) {
            compare("spread" + rest, () -> x.spread(r, is), () -> model.spread(r, is));
        } else if (kind == 32) {
            compare("markedAt" + rest, () -> x.markedAt(first), () -> model.markedAt(first));
        } else if (kind == 33) {
            compare("endOfMarks" + rest, () -> x.endOfMarks(), () -> model.endOfMarks());
        } else if (kind == 34 && is) {
            compare("meanRow" + rest, () -> x.meanRow(r), () -> model.meanRow(r));
        } else if (kind == 34) {
            compare("share" + rest, () -> x.share(r), () -> model.share(r));
        } else {
            compare("errors" + rest, () -> x.errors(), () -> model.errors());
        }
    }

    /** Looks at one relation and at the marks as a whole, in 240 calls at most. */
    private void lookAtAll(int relation) {
        for (int i = 0; i < size; i++) {
            int at = i;
            compare("wordOf 0", () -> x.wordOf(relation, at, 0),
                    () -> model.wordOf(relation, at, 0));
            compare("wordOf 1", () -> x.wordOf(relation, at, 1),
                    () -> model.wordOf(relation, at, 1));
            compare("markedAt", () -> x.markedAt(at), () -> model.markedAt(at));
        }
    }

    // Without pairs at first, and some relations without rings, most questions would have one
    // answer only. Relation 3 is the order that takes the rings away, in 16 calls at most.
    private void start() {
        begin();
        compare("chain", () -> x.chain(3), () -> model.chain(3));
        compare("close", () -> x.close(3, false), () -> model.close(3, false));
        for (int relation = 0; relation < 3; relation++) {
            int r = relation;
            int seed = (int) (state >> 20);
            int many = Math.min(200, upTo(3) * size / 2);
            compare("draw", () -> x.draw(r, seed, many), () -> model.draw(r, seed, many));
            if (isOnce(2)) {
                compare("combine", () -> x.combine(r, 3, 1), () -> model.combine(r, 3, 1));
            }
            if (isOnce(2)) {
                compare("turn", () -> x.turn(r), () -> model.turn(r));
            }
        }
        if (isOnce(2)) {
            compare("combine", () -> x.combine(3, 3, 3), () -> model.combine(3, 3, 3));
        }
    }

    public static void main(String[] args) {
        for (int run = 0; run < 3000; run++) {
            ModelRunsTest test = new ModelRunsTest(run * 7919L + 17L);
            test.start();
            int calls = 40 + test.upTo(200);
            for (int i = 0; i < calls; i++) {
                test.makeCall();
            }
            test.lookAtAll(run % 4);
        }
        check.end();
    }
}
