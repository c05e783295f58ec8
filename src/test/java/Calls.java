import java.util.ArrayList;
import java.util.List;
import java.util.function.Predicate;

/** Every call of the face with the kinds of its arguments, for tests that go through all calls. */
final class Calls {
    /** A call with its arguments as numbers; what is true or false is told by 1 or 0. */
    interface Body {
        Object on(Relationrows x, int[] a);
    }

    /** A call and its arguments. */
    record Call(String name, int[] arguments, Body body) {
        String answer(Relationrows x) {
            try {
                return String.valueOf(body.on(x, arguments));
            } catch (RuntimeException e) {
                return "throws." + e.getClass().getSimpleName();
            }
        }

        @Override
        public String toString() {
            String list = java.util.Arrays.toString(arguments);
            return name + "(" + list.substring(1, list.length() - 1) + ")";
        }
    }

    static final String INDEX = "throws.IndexOutOfBoundsException";
    static final String ARGUMENT = "throws.IllegalArgumentException";
    static final String NO_ELEMENT = "throws.NoSuchElementException";

    // The kinds of arguments: n how many elements, r a relation, e an element, f and g the ends
    // of a range, m how many draws, h one of four ways, w a word, q a question, a any number,
    // b true or false, i the index of a mark.
    private static final String INDEX_KINDS = "refg";
    private static final String OPTION_KINDS = "nmhwq";
    private static final int[][] RANGES = {
        {-1, 0}, {-1, 1}, {-1, -1}, {1, 0}, {0, -1}, {0, Integer.MIN_VALUE},
        {Integer.MIN_VALUE, Integer.MAX_VALUE}, {Integer.MIN_VALUE, 0}, {0, Integer.MAX_VALUE},
        {Integer.MAX_VALUE, Integer.MAX_VALUE}, {Integer.MAX_VALUE, Integer.MIN_VALUE},
        {0, 81}, {81, 81}, {128, 129},
    };

    final String name;
    final String kinds;
    private final Body body;

    private Calls(String name, String kinds, Body body) {
        this.name = name;
        this.kinds = kinds;
        this.body = body;
    }

    static final Calls[] ALL = {
        new Calls("begin", "n", (x, a) -> x.begin(a[0])),
        new Calls("set", "reeb", (x, a) -> x.set(a[0], a[1], a[2], a[3] == 1)),
        new Calls("setRange", "refgb", (x, a) -> x.setRange(a[0], a[1], a[2], a[3], a[4] == 1)),
        new Calls("flipRange", "refg", (x, a) -> x.flipRange(a[0], a[1], a[2], a[3])),
        new Calls("setRow", "rea", (x, a) -> x.setRow(a[0], a[1], a[2])),
        new Calls("chain", "r", (x, a) -> x.chain(a[0])),
        new Calls("draw", "ram", (x, a) -> x.draw(a[0], a[1], a[2])),
        new Calls("copy", "rr", (x, a) -> x.copy(a[0], a[1])),
        new Calls("combine", "rrh", (x, a) -> x.combine(a[0], a[1], a[2])),
        new Calls("compose", "rrr", (x, a) -> x.compose(a[0], a[1], a[2])),
        new Calls("turn", "r", (x, a) -> x.turn(a[0])),
        new Calls("oppose", "r", (x, a) -> x.oppose(a[0])),
        new Calls("close", "rb", (x, a) -> x.close(a[0], a[1] == 1)),
        new Calls("cover", "rr", (x, a) -> x.cover(a[0], a[1])),
        new Calls("has", "ree", (x, a) -> x.has(a[0], a[1], a[2])),
        new Calls("count", "r", (x, a) -> x.count(a[0])),
        new Calls("countOf", "re", (x, a) -> x.countOf(a[0], a[1])),
        new Calls("beside", "reeh", (x, a) -> x.beside(a[0], a[1], a[2], a[3])),
        new Calls("wordOf", "rew", (x, a) -> x.wordOf(a[0], a[1], a[2])),
        new Calls("meet", "rere", (x, a) -> x.meet(a[0], a[1], a[2], a[3])),
        new Calls("compare", "rr", (x, a) -> x.compare(a[0], a[1])),
        new Calls("is", "rq", (x, a) -> x.is(a[0], a[1])),
        new Calls("steps", "ree", (x, a) -> x.steps(a[0], a[1], a[2])),
        new Calls("classOf", "re", (x, a) -> x.classOf(a[0], a[1])),
        new Calls("classes", "r", (x, a) -> x.classes(a[0])),
        new Calls("hasRing", "r", (x, a) -> x.hasRing(a[0])),
        new Calls("orderAt", "re", (x, a) -> x.orderAt(a[0], a[1])),
        new Calls("longestWalk", "r", (x, a) -> x.longestWalk(a[0])),
        new Calls("mark", "fgb", (x, a) -> x.mark(a[0], a[1], a[2] == 1)),
        new Calls("spread", "rb", (x, a) -> x.spread(a[0], a[1] == 1)),
        new Calls("markedAt", "i", (x, a) -> x.markedAt(a[0])),
        new Calls("endOfMarks", "", (x, a) -> x.endOfMarks()),
        new Calls("meanRow", "r", (x, a) -> x.meanRow(a[0])),
        new Calls("share", "r", (x, a) -> x.share(a[0])),
        new Calls("errors", "", (x, a) -> x.errors()),
    };

    static Calls named(String name) {
        for (Calls calls : ALL) {
            if (calls.name.equals(name)) {
                return calls;
            }
        }
        throw new IllegalArgumentException(name);
    }

    Call call(int... arguments) {
        return new Call(name, arguments, body);
    }

    /** An object in which a change of anything can be seen: no relation is empty or full. */
    static Relationrows filled(int elements) {
        Relationrows x = Made.of(elements);
        x.chain(2);
        x.close(2, false);
        x.draw(0, 4711, Math.min(200, elements * 2));
        x.combine(0, 2, 1);
        x.draw(1, 99, Math.min(200, elements * 3));
        x.chain(3);
        x.turn(3);
        x.set(3, 0, elements - 1, true);
        x.mark(elements / 2, elements, true);
        return x;
    }

    private static int most(char kind, int elements) {
        return switch (kind) {
            case 'n' -> 80;
            case 'e' -> elements - 1;
            case 'f', 'g' -> elements;
            case 'm' -> 200;
            case 'w', 'b' -> 1;
            case 'q' -> 5;
            case 'i' -> elements - elements / 2 - 1;
            case 'a' -> Integer.MAX_VALUE;
            default -> 3;
        };
    }

    private static int least(char kind) {
        return kind == 'n' ? 1 : kind == 'a' ? Integer.MIN_VALUE : 0;
    }

    private int[] allLeast() {
        int[] a = new int[kinds.length()];
        for (int i = 0; i < a.length; i++) {
            a[i] = least(kinds.charAt(i));
        }
        return a;
    }

    private int[] allMost(int elements) {
        int[] a = new int[kinds.length()];
        for (int i = 0; i < a.length; i++) {
            a[i] = most(kinds.charAt(i), elements);
        }
        return a;
    }

    private static int[] wrongOnes(char kind, int elements) {
        int most = most(kind, elements);
        return new int[] {least(kind) - 1, most + 1, Integer.MIN_VALUE, Integer.MAX_VALUE,
            most + 64, most + 256, -64, least(kind) - 256};
    }

    private Call with(int[] arguments, int place, int... put) {
        int[] a = arguments.clone();
        System.arraycopy(put, 0, a, place, put.length);
        return call(a);
    }

    /** The call with the least arguments that it takes, and with the greatest ones. */
    List<Call> accepted(int elements) {
        List<Call> calls = new ArrayList<>();
        calls.add(call(allLeast()));
        calls.add(call(allMost(elements)));
        for (int i = 0; i < kinds.length(); i++) {
            calls.add(with(allLeast(), i, most(kinds.charAt(i), elements)));
            calls.add(with(allMost(elements), i, least(kinds.charAt(i))));
        }
        calls.removeIf(call -> isTurnedRange(call.arguments));
        return calls;
    }

    /** The calls with each number that one argument can be, and the least ones besides. */
    List<Call> withEach(int place, int elements) {
        List<Call> calls = new ArrayList<>();
        char kind = kinds.charAt(place);
        if (kind == 'a') {
            for (int any = 1; any != 0; any <<= 1) {
                calls.add(with(allLeast(), place, any));
                calls.add(with(allLeast(), place, any - 1));
                calls.add(with(allLeast(), place, ~any));
            }
            return calls;
        }
        for (int value = least(kind); value <= most(kind, elements); value++) {
            Call call = with(allLeast(), place, value);
            if (kind == 'f') {
                call.arguments[place + 1] = elements;
            }
            calls.add(call);
        }
        return calls;
    }

    /** The calls with the numbers just beside those that one argument can be. */
    List<Call> withEachBeside(int place, int elements) {
        List<Call> calls = new ArrayList<>();
        char kind = kinds.charAt(place);
        if (!refusalOf(kind).isEmpty()) {
            calls.add(with(allLeast(), place, least(kind) - 1));
            calls.add(with(allLeast(), place, most(kind, elements) + 1));
        }
        return calls;
    }

    /** What is thrown for a wrong argument of a kind; nothing if none is wrong. */
    static String refusalOf(char kind) {
        if (kind == 'i') {
            return NO_ELEMENT;
        }
        if (INDEX_KINDS.indexOf(kind) >= 0) {
            return INDEX;
        }
        return OPTION_KINDS.indexOf(kind) >= 0 ? ARGUMENT : "";
    }

    private boolean isTurnedRange(int[] a) {
        int first = kinds.indexOf('f');
        return first >= 0 && a[first] > a[first + 1];
    }

    /** The calls with one wrong argument of some kinds (a range counts as one). */
    private List<Call> wrong(int elements, int[] others, Predicate<Character> isKind) {
        List<Call> calls = new ArrayList<>();
        for (int i = 0; i < kinds.length(); i++) {
            char kind = kinds.charAt(i);
            if (!isKind.test(kind) || kind == 'g') {
                continue;
            }
            if (kind == 'f') {
                for (int[] range : RANGES) {
                    calls.add(with(others, i, range));
                }
                calls.add(with(others, i, 0, elements + 1));
                calls.add(with(others, i, elements, elements - 1));
                calls.add(with(others, i, elements, elements + 1));
                calls.add(with(others, i, elements + 1, elements + 1));
            } else {
                for (int wrong : wrongOnes(kind, elements)) {
                    calls.add(with(others, i, wrong));
                }
            }
        }
        return calls;
    }

    /** The calls with one argument that tells a relation or an element that does not exist. */
    List<Call> wrongIndex(int elements) {
        List<Call> calls = wrong(elements, allLeast(), k -> INDEX_KINDS.indexOf(k) >= 0);
        calls.addAll(wrong(elements, allMost(elements), k -> INDEX_KINDS.indexOf(k) >= 0));
        return calls;
    }

    /** The calls with one argument out of range that tells no relation and no element. */
    List<Call> wrongOption(int elements) {
        List<Call> calls = wrong(elements, allLeast(), k -> OPTION_KINDS.indexOf(k) >= 0);
        calls.addAll(wrong(elements, allMost(elements), k -> OPTION_KINDS.indexOf(k) >= 0));
        return calls;
    }

    /** The calls with one wrong argument of each of the two sorts. */
    List<Call> wrongBoth(int elements) {
        List<Call> calls = new ArrayList<>();
        for (Call call : wrongOption(elements)) {
            calls.addAll(wrong(elements, call.arguments, k -> INDEX_KINDS.indexOf(k) >= 0));
        }
        return calls;
    }
}
