import java.util.ArrayDeque;
import java.util.NoSuchElementException;

/**
 * The document told once more, in tables of booleans and by the plainest ways: what the class
 * answers is compared with this.
 */
final class Model {
    private int n = 12;
    private boolean[][][] has = new boolean[4][12][12];
    private boolean[] marked = new boolean[12];

    private void needRelation(int relation) {
        if (relation < 0 || relation > 3) {
            throw new IndexOutOfBoundsException();
        }
    }

    private void needElement(int element) {
        if (element < 0 || element >= n) {
            throw new IndexOutOfBoundsException();
        }
    }

    private void needRange(int first, int end) {
        if (first < 0 || end > n || first > end) {
            throw new IndexOutOfBoundsException();
        }
    }

    private static void needOption(int option, int least, int most) {
        if (option < least || option > most) {
            throw new IllegalArgumentException();
        }
    }

    int begin(int elements) {
        needOption(elements, 1, 80);
        int before = n;
        n = elements;
        has = new boolean[4][n][n];
        marked = new boolean[n];
        return before;
    }

    boolean set(int relation, int from, int to, boolean is) {
        needRelation(relation);
        needElement(from);
        needElement(to);
        boolean had = has[relation][from][to];
        has[relation][from][to] = is;
        return had;
    }

    int setRange(int relation, int from, int first, int end, boolean is) {
        needRelation(relation);
        needElement(from);
        needRange(first, end);
        for (int to = first; to < end; to++) {
            has[relation][from][to] = is;
        }
        return countOf(relation, from);
    }

    int flipRange(int relation, int from, int first, int end) {
        needRelation(relation);
        needElement(from);
        needRange(first, end);
        for (int to = first; to < end; to++) {
            has[relation][from][to] = !has[relation][from][to];
        }
        return countOf(relation, from);
    }

    int setRow(int relation, int from, long bits) {
        needRelation(relation);
        needElement(from);
        for (int to = 0; to < n; to++) {
            has[relation][from][to] = to < 64 && (bits >> to & 1) == 1;
        }
        return countOf(relation, from);
    }

    int chain(int relation) {
        needRelation(relation);
        for (int from = 0; from < n - 1; from++) {
            has[relation][from][from + 1] = true;
        }
        return count(relation);
    }

    int draw(int relation, int seed, int many) {
        needRelation(relation);
        needOption(many, 0, 200);
        for (int i = 0; i < many; i++) {
            seed = seed * 1103515245 + 12345;
            int from = (seed >>> 16) % n;
            seed = seed * 1103515245 + 12345;
            has[relation][from][(seed >>> 16) % n] = true;
        }
        return count(relation);
    }

    private int put(int relation, boolean[][] pairs) {
        has[relation] = pairs;
        return count(relation);
    }

    int copy(int relation, int into) {
        needRelation(relation);
        needRelation(into);
        boolean[][] pairs = new boolean[n][];
        for (int from = 0; from < n; from++) {
            pairs[from] = has[relation][from].clone();
        }
        return put(into, pairs);
    }

    int combine(int relation, int other, int how) {
        needRelation(relation);
        needRelation(other);
        needOption(how, 0, 3);
        boolean[][] pairs = new boolean[n][n];
        for (int from = 0; from < n; from++) {
            for (int to = 0; to < n; to++) {
                boolean a = has[relation][from][to];
                boolean b = has[other][from][to];
                pairs[from][to] = how == 0 ? a || b : how == 1 ? a && b : how == 2 ? a && !b
                        : a != b;
            }
        }
        return put(relation, pairs);
    }

    int compose(int first, int second, int into) {
        needRelation(first);
        needRelation(second);
        needRelation(into);
        boolean[][] pairs = new boolean[n][n];
        for (int from = 0; from < n; from++) {
            for (int between = 0; between < n; between++) {
                for (int to = 0; to < n && has[first][from][between]; to++) {
                    pairs[from][to] |= has[second][between][to];
                }
            }
        }
        return put(into, pairs);
    }

    int turn(int relation) {
        needRelation(relation);
        boolean[][] pairs = new boolean[n][n];
        for (int from = 0; from < n; from++) {
            for (int to = 0; to < n; to++) {
                pairs[to][from] = has[relation][from][to];
            }
        }
        return put(relation, pairs);
    }

    int oppose(int relation) {
        needRelation(relation);
        for (int from = 0; from < n; from++) {
            flipRange(relation, from, 0, n);
        }
        return count(relation);
    }

    /** The least steps of walks from one element to each other one, 0 where there is none. */
    private int[] distances(boolean[][] pairs, int from) {
        int[] steps = new int[n];
        ArrayDeque<Integer> waiting = new ArrayDeque<>();
        for (int to = 0; to < n; to++) {
            if (pairs[from][to]) {
                steps[to] = 1;
                waiting.add(to);
            }
        }
        while (!waiting.isEmpty()) {
            int at = waiting.remove();
            for (int to = 0; to < n; to++) {
                if (pairs[at][to] && steps[to] == 0) {
                    steps[to] = steps[at] + 1;
                    waiting.add(to);
                }
            }
        }
        return steps;
    }

    private boolean[][] closure(int relation) {
        boolean[][] pairs = new boolean[n][n];
        for (int from = 0; from < n; from++) {
            int[] steps = distances(has[relation], from);
            for (int to = 0; to < n; to++) {
                pairs[from][to] = steps[to] > 0;
            }
        }
        return pairs;
    }

    int close(int relation, boolean isOwn) {
        needRelation(relation);
        boolean[][] pairs = closure(relation);
        for (int element = 0; element < n; element++) {
            pairs[element][element] |= isOwn;
        }
        return put(relation, pairs);
    }

    int cover(int relation, int into) {
        needRelation(relation);
        needRelation(into);
        if (hasRing(relation)) {
            throw new IllegalStateException();
        }
        boolean[][] closed = closure(relation);
        boolean[][] pairs = new boolean[n][n];
        for (int from = 0; from < n; from++) {
            for (int to = 0; to < n; to++) {
                boolean isCover = closed[from][to];
                for (int third = 0; third < n && isCover; third++) {
                    isCover = !closed[from][third] || !closed[third][to];
                }
                pairs[from][to] = isCover;
            }
        }
        return put(into, pairs);
    }

    boolean has(int relation, int from, int to) {
        needRelation(relation);
        needElement(from);
        needElement(to);
        return has[relation][from][to];
    }

    int count(int relation) {
        needRelation(relation);
        int pairs = 0;
        for (int from = 0; from < n; from++) {
            pairs += countOf(relation, from);
        }
        return pairs;
    }

    int countOf(int relation, int from) {
        needRelation(relation);
        needElement(from);
        int size = 0;
        for (boolean isIn : has[relation][from]) {
            size += isIn ? 1 : 0;
        }
        return size;
    }

    int beside(int relation, int from, int place, int how) {
        needRelation(relation);
        needElement(from);
        needElement(place);
        needOption(how, 0, 3);
        int best = -1;
        for (int to = 0; to < n; to++) {
            if (has[relation][from][to] == (how % 2 == 0)) {
                if (how < 2 && to >= place && best == -1) {
                    best = to;
                }
                if (how >= 2 && to <= place) {
                    best = to;
                }
            }
        }
        return best;
    }

    long wordOf(int relation, int from, int word) {
        needRelation(relation);
        needElement(from);
        needOption(word, 0, 1);
        long bits = 0;
        for (int to = 64 * word; to < n && to < 64 * word + 64; to++) {
            bits |= has[relation][from][to] ? 1L << to % 64 : 0;
        }
        return bits;
    }

    boolean meet(int relation, int from, int other, int at) {
        needRelation(relation);
        needElement(from);
        needRelation(other);
        needElement(at);
        boolean meets = false;
        for (int to = 0; to < n; to++) {
            meets |= has[relation][from][to] && has[other][at][to];
        }
        return meets;
    }

    int compare(int relation, int other) {
        needRelation(relation);
        needRelation(other);
        boolean more = false;
        boolean less = false;
        for (int from = 0; from < n; from++) {
            for (int to = 0; to < n; to++) {
                more |= has[relation][from][to] && !has[other][from][to];
                less |= !has[relation][from][to] && has[other][from][to];
            }
        }
        return more ? less ? 3 : 1 : less ? 2 : 0;
    }

    boolean is(int relation, int what) {
        needRelation(relation);
        needOption(what, 0, 5);
        boolean[][] pairs = has[relation];
        for (int a = 0; a < n; a++) {
            if (what == 0 && !pairs[a][a] || what == 1 && pairs[a][a]) {
                return false;
            }
            for (int b = 0; b < n; b++) {
                if (what == 2 && pairs[a][b] && !pairs[b][a]
                        || what == 3 && a != b && pairs[a][b] && pairs[b][a]
                        || what == 5 && a != b && !pairs[a][b] && !pairs[b][a]) {
                    return false;
                }
                for (int c = 0; c < n && what == 4; c++) {
                    if (pairs[a][b] && pairs[b][c] && !pairs[a][c]) {
                        return false;
                    }
                }
            }
        }
        return true;
    }

    int steps(int relation, int from, int to) {
        needRelation(relation);
        needElement(from);
        needElement(to);
        int steps = distances(has[relation], from)[to];
        return steps == 0 ? -1 : steps;
    }

    int classOf(int relation, int element) {
        needRelation(relation);
        needElement(element);
        int[] there = distances(has[relation], element);
        for (int other = 0; other < element; other++) {
            if (there[other] > 0 && distances(has[relation], other)[element] > 0) {
                return other;
            }
        }
        return element;
    }

    int classes(int relation) {
        needRelation(relation);
        int found = 0;
        for (int element = 0; element < n; element++) {
            found += classOf(relation, element) == element ? 1 : 0;
        }
        return found;
    }

    boolean hasRing(int relation) {
        needRelation(relation);
        boolean found = false;
        for (int element = 0; element < n; element++) {
            found |= distances(has[relation], element)[element] > 0;
        }
        return found;
    }

    private int[] order(int relation) {
        int[] order = new int[n];
        boolean[] taken = new boolean[n];
        for (int place = 0; place < n; place++) {
            int next = -1;
            for (int element = n - 1; element >= 0; element--) {
                boolean isFree = !taken[element];
                for (int before = 0; before < n; before++) {
                    isFree &= taken[before] || !has[relation][before][element];
                }
                next = isFree ? element : next;
            }
            if (next == -1) {
                throw new IllegalStateException();
            }
            taken[next] = true;
            order[place] = next;
        }
        return order;
    }

    int orderAt(int relation, int place) {
        needRelation(relation);
        needElement(place);
        return order(relation)[place];
    }

    int longestWalk(int relation) {
        needRelation(relation);
        if (hasRing(relation)) {
            throw new IllegalStateException();
        }
        int[] order = order(relation);
        int[] length = new int[n];
        int longest = 0;
        for (int place = 0; place < n; place++) {
            int from = order[place];
            longest = Math.max(longest, length[from]);
            for (int to = 0; to < n; to++) {
                if (has[relation][from][to]) {
                    length[to] = Math.max(length[to], length[from] + 1);
                }
            }
        }
        return longest;
    }

    private int marks() {
        int marks = 0;
        for (boolean is : marked) {
            marks += is ? 1 : 0;
        }
        return marks;
    }

    int mark(int first, int end, boolean is) {
        needRange(first, end);
        for (int element = first; element < end; element++) {
            marked[element] = is;
        }
        return marks();
    }

    int spread(int relation, boolean isOwn) {
        needRelation(relation);
        boolean[] then = new boolean[n];
        for (int from = 0; from < n; from++) {
            then[from] |= isOwn && marked[from];
            for (int to = 0; to < n; to++) {
                then[to] |= marked[from] && has[relation][from][to];
            }
        }
        marked = then;
        return marks();
    }

    int markedAt(int index) {
        int passed = 0;
        for (int element = 0; element < n; element++) {
            if (marked[element] && passed++ == index) {
                return element;
            }
        }
        throw new NoSuchElementException();
    }

    int endOfMarks() {
        int end = 0;
        for (int element = 0; element < n; element++) {
            end = marked[element] ? element + 1 : end;
        }
        return end;
    }

    double meanRow(int relation) {
        return (double) count(relation) / (double) n;
    }

    float share(int relation) {
        return (float) count(relation) / (float) (n * n);
    }

    int errors() {
        return 0;
    }
}
