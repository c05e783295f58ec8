import java.util.NoSuchElementException;

/**
 * Relations between the elements of a small set, kept as rows of bits: pairs told one by one, by
 * ranges and by draws, relations joined, composed, turned round and closed, classes, orders,
 * covers, walks, and marked elements that spread.
 */
public final class Relationrows {
    /** There is none. */
    public static final int NONE = -1;

    private static final int MOST_ELEMENTS = 80;
    private static final int FIRST_ELEMENTS = 12;
    private static final int RELATIONS = 4;
    private static final int CHECKED_RELATIONS = 3;
    private static final int MOST_DRAWS = 200;
    private static final int WORD = 64;

    private static final int EITHER = 0;
    private static final int BOTH = 1;
    private static final int WITHOUT = 2;
    private static final int JUST_ONE = 3;

    private static final int LEAST_IN = 0;
    private static final int LEAST_OUT = 1;
    private static final int GREATEST_OUT = 3;

    private static final int OWN_ALL = 0;
    private static final int OWN_NONE = 1;
    private static final int TWO_WAYS = 2;
    private static final int ONE_WAY = 3;
    private static final int TRANSITIVE = 4;
    private static final int LINKED = 5;

    private int elements;
    private final Relation[] relations;
    private final Bits marks;

    // All that calls need besides the state is made once here, because everything that the calls
    // of a run make stays in one room.
    private final Bits row;
    private final Relation work;
    private final Walks walks;
    private final Theorem theorem;

    /** Creates four relations without pairs between 12 elements, none of which is marked. */
    public Relationrows() {
        elements = FIRST_ELEMENTS;
        relations = new Relation[RELATIONS];
        for (int i = 0; i < relations.length; i++) {
            relations[i] = new Relation();
        }
        marks = new Bits();
        row = new Bits();
        work = new Relation();
        walks = new Walks();
        theorem = new Theorem();
    }

    /** Begins anew with so many elements: no pairs, no marks. Returns how many there were. */
    public int begin(int elements) throws IllegalArgumentException {
        if (elements < 1 || elements > MOST_ELEMENTS) {
            throw new IllegalArgumentException("elements is out of range");
        }
        int before = this.elements;
        this.elements = elements;
        for (int i = 0; i < RELATIONS; i++) {
            relationAt(i).restart(elements);
        }
        marks.clear();
        return before;
    }

    // ---- pairs

    /** Gives a relation a pair, or takes it away. Returns whether it had it. */
    public boolean set(int relation, int from, int to, boolean is)
            throws IndexOutOfBoundsException {
        Relation found = relationAt(relation);
        checkElement(from);
        checkElement(to);
        boolean had = found.holds(from, to);
        found.rowInto(from, row);
        row.putRange(to, to + 1, is);
        found.putRow(from, row);
        return had;
    }

    /** Gives or takes the pairs from an element to a range. Returns the size of the row then. */
    public int setRange(int relation, int from, int first, int end, boolean is)
            throws IndexOutOfBoundsException {
        Relation found = relationAt(relation);
        checkElement(from);
        checkRange(first, end);
        found.rowInto(from, row);
        row.putRange(first, end, is);
        found.putRow(from, row);
        return found.sizeOf(from);
    }

    /** Turns the pairs from an element to a range. Returns the size of the row then. */
    public int flipRange(int relation, int from, int first, int end)
            throws IndexOutOfBoundsException {
        Relation found = relationAt(relation);
        checkElement(from);
        checkRange(first, end);
        found.rowInto(from, row);
        row.invert(first, end);
        found.putRow(from, row);
        return found.sizeOf(from);
    }

    /** Sets the row of an element by the bits of a number. Returns the size of the row then. */
    public int setRow(int relation, int from, long bits) throws IndexOutOfBoundsException {
        Relation found = relationAt(relation);
        checkElement(from);
        row.clear();
        row.low = bits & Bits.lowRange(0, elements);
        found.putRow(from, row);
        return found.sizeOf(from);
    }

    /** Gives a relation the pairs from each element to the next one. Returns how many it has. */
    public int chain(int relation) throws IndexOutOfBoundsException {
        Relation found = relationAt(relation);
        for (int from = 0; from + 1 < elements; from++) {
            found.join(from, from + 1);
        }
        return found.pairs();
    }

    /** Gives a relation drawn pairs. Returns how many pairs it has then. */
    public int draw(int relation, int seed, int many)
            throws IndexOutOfBoundsException, IllegalArgumentException {
        Relation found = relationAt(relation);
        if (many < 0 || many > MOST_DRAWS) {
            throw new IllegalArgumentException("many is out of range");
        }
        int drawn = seed;
        for (int i = 0; i < many; i++) {
            drawn = seedAfter(drawn);
            int from = elementOf(drawn);
            drawn = seedAfter(drawn);
            found.join(from, elementOf(drawn));
        }
        return found.pairs();
    }

    // ---- relations by relations

    /** Makes the relation into a copy of the other one. Returns how many pairs it has then. */
    public int copy(int relation, int into) throws IndexOutOfBoundsException {
        Relation found = relationAt(relation);
        Relation target = relationAt(into);
        target.take(found);
        return target.pairs();
    }

    /** Makes a relation what comes of it and another one. Returns how many pairs it has then. */
    public int combine(int relation, int other, int how)
            throws IndexOutOfBoundsException, IllegalArgumentException {
        Relation found = relationAt(relation);
        Relation second = relationAt(other);
        if (how < EITHER || how > JUST_ONE) {
            throw new IllegalArgumentException("how is out of range");
        }
        found.mix(second, how);
        return found.pairs();
    }

    /** Composes two relations; the three can be the same. Returns how many pairs into has then. */
    public int compose(int first, int second, int into) throws IndexOutOfBoundsException {
        Relation start = relationAt(first);
        Relation goal = relationAt(second);
        Relation target = relationAt(into);
        // The product is made aside, because into may be one of the two that it is made of.
        work.product(start, goal);
        target.take(work);
        return target.pairs();
    }

    /** Turns each pair of a relation round. Returns how many pairs it has. */
    public int turn(int relation) throws IndexOutOfBoundsException {
        Relation found = relationAt(relation);
        found.reverse();
        return found.pairs();
    }

    /** Gives a relation just the pairs that it did not have. Returns how many it has then. */
    public int oppose(int relation) throws IndexOutOfBoundsException {
        Relation found = relationAt(relation);
        found.invert();
        return found.pairs();
    }

    /** Makes a relation its closure. Returns how many pairs it has then. */
    public int close(int relation, boolean isOwn) throws IndexOutOfBoundsException {
        Relation found = relationAt(relation);
        found.closeUp();
        if (isOwn) {
            found.joinOwn();
        }
        return found.pairs();
    }

    /** Makes the relation into the covers of another one. Returns how many pairs it has then. */
    public int cover(int relation, int into)
            throws IndexOutOfBoundsException, IllegalStateException {
        Relation found = relationAt(relation);
        Relation target = relationAt(into);
        if (walks.longest(found) == NONE) {
            throw new IllegalStateException("the relation has a ring");
        }
        closeAside(found);
        target.takeCovers(work);
        return target.pairs();
    }

    // ---- questions about pairs

    /** Tells whether a relation has a pair. */
    public boolean has(int relation, int from, int to) throws IndexOutOfBoundsException {
        Relation found = relationAt(relation);
        checkElement(from);
        checkElement(to);
        return found.holds(from, to);
    }

    /** Returns the number of pairs of a relation. */
    public int count(int relation) throws IndexOutOfBoundsException {
        return relationAt(relation).pairs();
    }

    /** Returns the number of elements of a row. */
    public int countOf(int relation, int from) throws IndexOutOfBoundsException {
        Relation found = relationAt(relation);
        checkElement(from);
        return found.sizeOf(from);
    }

    /** Returns an element that is, or is not, in a row, beside a place; NONE if there is none. */
    public int beside(int relation, int from, int place, int how)
            throws IndexOutOfBoundsException, IllegalArgumentException {
        Relation found = relationAt(relation);
        checkElement(from);
        checkElement(place);
        if (how < LEAST_IN || how > GREATEST_OUT) {
            throw new IllegalArgumentException("how is out of range");
        }
        found.rowInto(from, row);
        if (how == LEAST_OUT || how == GREATEST_OUT) {
            row.invert(0, elements);
        }
        boolean isLeast = how == LEAST_IN || how == LEAST_OUT;
        return isLeast ? row.leastFrom(place) : row.greatestTo(place);
    }

    /** Returns a row as bits: word 0 for the elements 0 to 63, word 1 for those from 64 on. */
    public long wordOf(int relation, int from, int word)
            throws IndexOutOfBoundsException, IllegalArgumentException {
        Relation found = relationAt(relation);
        checkElement(from);
        if (word < 0 || word > 1) {
            throw new IllegalArgumentException("word is out of range");
        }
        return word == 0 ? found.lowAt(from) : found.highAt(from);
    }

    /** Tells whether two rows have an element in common. */
    public boolean meet(int relation, int from, int other, int at)
            throws IndexOutOfBoundsException {
        Relation found = relationAt(relation);
        checkElement(from);
        Relation second = relationAt(other);
        checkElement(at);
        found.rowInto(from, row);
        return (row.low & second.lowAt(at)) != 0L || (row.high & second.highAt(at)) != 0L;
    }

    /** Compares two relations: 0 the same, 1 the first has more, 2 the second has, 3 otherwise. */
    public int compare(int relation, int other) throws IndexOutOfBoundsException {
        Relation found = relationAt(relation);
        Relation second = relationAt(other);
        boolean hasAll = found.hasAllOf(second);
        boolean isPart = second.hasAllOf(found);
        if (hasAll) {
            return isPart ? 0 : 1;
        }
        return isPart ? 2 : 3;
    }

    /** Tells something about a relation. */
    public boolean is(int relation, int what)
            throws IndexOutOfBoundsException, IllegalArgumentException {
        Relation found = relationAt(relation);
        if (what < OWN_ALL || what > LINKED) {
            throw new IllegalArgumentException("what is out of range");
        }
        switch (what) {
            case OWN_ALL:
                return found.ownPairs() == elements;
            case OWN_NONE:
                return found.ownPairs() == 0;
            case TRANSITIVE:
                return found.isTransitive();
            default:
                return found.everyTwoAre(what);
        }
    }

    // ---- walks, classes, orders

    /** Returns the least number of steps of a walk, 1 or more; NONE if there is no walk. */
    public int steps(int relation, int from, int to) throws IndexOutOfBoundsException {
        Relation found = relationAt(relation);
        checkElement(from);
        checkElement(to);
        return walks.stepsBetween(found, from, to);
    }

    /** Returns the least element of the class of an element. */
    public int classOf(int relation, int element) throws IndexOutOfBoundsException {
        Relation found = relationAt(relation);
        checkElement(element);
        closeAside(found);
        return work.leastOfClass(element);
    }

    /** Returns the number of classes of a relation. */
    public int classes(int relation) throws IndexOutOfBoundsException {
        Relation found = relationAt(relation);
        closeAside(found);
        return work.classesInside();
    }

    /** Tells whether a relation has a ring. */
    public boolean hasRing(int relation) throws IndexOutOfBoundsException {
        return walks.longest(relationAt(relation)) == NONE;
    }

    /** Returns an element of the first order that keeps a relation. */
    public int orderAt(int relation, int place)
            throws IndexOutOfBoundsException, IllegalStateException {
        Relation found = relationAt(relation);
        checkElement(place);
        if (!walks.findOrder(found)) {
            throw new IllegalStateException("there is no order");
        }
        return walks.orderedAt(place);
    }

    /** Returns the number of steps of the longest walk of a relation without a ring. */
    public int longestWalk(int relation)
            throws IndexOutOfBoundsException, IllegalStateException {
        int longest = walks.longest(relationAt(relation));
        if (longest == NONE) {
            throw new IllegalStateException("the relation has a ring");
        }
        return longest;
    }

    // ---- marks

    /** Marks a range, or takes its marks away. Returns how many elements are marked then. */
    public int mark(int first, int end, boolean is) throws IndexOutOfBoundsException {
        checkRange(first, end);
        marks.putRange(first, end, is);
        return marks.size();
    }

    /** Spreads marks along a relation. Returns how many elements are marked then. */
    public int spread(int relation, boolean isOwn) throws IndexOutOfBoundsException {
        Relation found = relationAt(relation);
        row.become(marks);
        found.imageOf(row, marks);
        if (isOwn) {
            marks.unite(row);
        }
        return marks.size();
    }

    /** Returns a marked element; index 0 is for the least one. */
    public int markedAt(int index) throws NoSuchElementException {
        int passed = 0;
        for (int element = 0; element < elements; element++) {
            if (marks.holds(element)) {
                if (passed == index) {
                    return element;
                }
                passed++;
            }
        }
        throw new NoSuchElementException("no marked element has this index");
    }

    /** Returns the greatest marked element plus 1; 0 if none is marked. */
    public int endOfMarks() {
        return marks.greatestTo(MOST_ELEMENTS - 1) + 1;
    }

    // ---- measures, the theorem

    /** Returns the mean number of elements of the rows of a relation. */
    public double meanRow(int relation) throws IndexOutOfBoundsException {
        double pairs = (double) relationAt(relation).pairs();
        return elements < 1 ? 0.0 : pairs / (double) elements;
    }

    /** Returns how much of all pairs that there could be a relation has. */
    public float share(int relation) throws IndexOutOfBoundsException {
        float pairs = (float) relationAt(relation).pairs();
        return elements < 1 ? 0.0f : pairs / (float) (elements * elements);
    }

    /** Checks the theorem with the relations 0 to 2. Returns how many things are wrong. */
    public int errors() {
        int wrong = 0;
        for (int i = 0; i < CHECKED_RELATIONS; i++) {
            wrong += theorem.wrongOfOne(relationAt(i));
        }
        return wrong + theorem.wrongOfThree(relationAt(0), relationAt(1), relationAt(2));
    }

    private Relation relationAt(int relation) {
        if (relation < 0 || relation >= relations.length || relations[relation] == null) {
            throw new IndexOutOfBoundsException("no such relation");
        }
        return relations[relation];
    }

    private void checkElement(int element) {
        if (element < 0 || element >= elements) {
            throw new IndexOutOfBoundsException("no such element");
        }
    }

    private void checkRange(int first, int end) {
        if (first < 0 || end > elements || first > end) {
            throw new IndexOutOfBoundsException("no such range");
        }
    }

    private static int seedAfter(int seed) {
        return seed * 1103515245 + 12345;
    }

    private int elementOf(int seed) {
        return elements < 1 ? 0 : (seed >>> 16) % elements;
    }

    private void closeAside(Relation relation) {
        work.take(relation);
        work.closeUp();
    }

    /** A set of elements, a bit for each one: those below 64 in low, the others in high. */
    private static final class Bits {
        long low;
        long high;

        static long below(int end) {
            // A shift by 64 would be one by 0.
            if (end >= WORD) {
                return -1L;
            }
            return end <= 0 ? 0L : (1L << end) - 1L;
        }

        static long lowRange(int first, int end) {
            return below(end) & ~below(first);
        }

        static long highRange(int first, int end) {
            return below(end - WORD) & ~below(first - WORD);
        }

        void clear() {
            low = 0L;
            high = 0L;
        }

        void become(Bits other) {
            low = other.low;
            high = other.high;
        }

        void unite(Bits other) {
            low |= other.low;
            high |= other.high;
        }

        void remove(Bits other) {
            low &= ~other.low;
            high &= ~other.high;
        }

        void putRange(int first, int end, boolean is) {
            long lowBits = lowRange(first, end);
            long highBits = highRange(first, end);
            low = is ? low | lowBits : low & ~lowBits;
            high = is ? high | highBits : high & ~highBits;
        }

        void invert(int first, int end) {
            low ^= lowRange(first, end);
            high ^= highRange(first, end);
        }

        boolean holds(int element) {
            long bits = element < WORD ? low >>> element : high >>> (element - WORD);
            return (bits & 1L) != 0L;
        }

        boolean isEmpty() {
            return low == 0L && high == 0L;
        }

        boolean meets(Bits other) {
            return (low & other.low) != 0L || (high & other.high) != 0L;
        }

        boolean isLike(Bits other) {
            return low == other.low && high == other.high;
        }

        int size() {
            return Long.bitCount(low) + Long.bitCount(high);
        }

        int leastFrom(int place) {
            long lowBits = low & ~below(place);
            long bits = lowBits != 0L ? lowBits : high & ~below(place - WORD);
            if (bits == 0L) {
                return NONE;
            }
            // The least bit that is 1, less 1, has as many ones as there are places below it.
            int least = Long.bitCount((bits & -bits) - 1L);
            return lowBits != 0L ? least : WORD + least;
        }

        int greatestTo(int place) {
            for (int element = place; element >= 0; element--) {
                if (holds(element)) {
                    return element;
                }
            }
            return NONE;
        }
    }

    /**
     * The rows of a relation. Who puts a row puts no element that does not exist; the rows of
     * such elements are never asked.
     */
    private static final class Relation {
        private int elements = FIRST_ELEMENTS;
        private final long[] low = new long[MOST_ELEMENTS];
        private final long[] high = new long[MOST_ELEMENTS];
        private final Bits row = new Bits();

        void restart(int newElements) {
            elements = newElements;
            row.clear();
            for (int from = 0; from < MOST_ELEMENTS; from++) {
                putRow(from, row);
            }
        }

        int elementsInside() {
            return elements;
        }

        long lowAt(int from) {
            return from < 0 || from >= low.length ? 0L : low[from];
        }

        long highAt(int from) {
            return from < 0 || from >= high.length ? 0L : high[from];
        }

        void rowInto(int from, Bits into) {
            into.low = lowAt(from);
            into.high = highAt(from);
        }

        void putRow(int from, Bits bits) {
            putWords(from, bits.low, bits.high);
        }

        private void putWords(int from, long lowBits, long highBits) {
            if (from >= 0 && from < low.length && from < high.length) {
                low[from] = lowBits;
                high[from] = highBits;
            }
        }

        boolean holds(int from, int to) {
            long bits = to < WORD ? lowAt(from) >>> to : highAt(from) >>> (to - WORD);
            return (bits & 1L) != 0L;
        }

        void join(int from, int to) {
            putWords(from, lowAt(from) | Bits.lowRange(to, to + 1),
                    highAt(from) | Bits.highRange(to, to + 1));
        }

        void joinOwn() {
            for (int element = 0; element < elements; element++) {
                join(element, element);
            }
        }

        int sizeOf(int from) {
            return Long.bitCount(lowAt(from)) + Long.bitCount(highAt(from));
        }

        int pairs() {
            int pairs = 0;
            for (int from = 0; from < elements; from++) {
                pairs += sizeOf(from);
            }
            return pairs;
        }

        int ownPairs() {
            int own = 0;
            for (int element = 0; element < elements; element++) {
                if (holds(element, element)) {
                    own++;
                }
            }
            return own;
        }

        void take(Relation other) {
            elements = other.elements;
            for (int from = 0; from < elements; from++) {
                putWords(from, other.lowAt(from), other.highAt(from));
            }
        }

        void mix(Relation other, int how) {
            for (int from = 0; from < elements; from++) {
                putWords(from, mixed(lowAt(from), other.lowAt(from), how),
                        mixed(highAt(from), other.highAt(from), how));
            }
        }

        private static long mixed(long bits, long others, int how) {
            switch (how) {
                case EITHER:
                    return bits | others;
                case BOTH:
                    return bits & others;
                case WITHOUT:
                    return bits & ~others;
                default:
                    return bits ^ others;
            }
        }

        /** Becomes the product of two relations, the second of which is not this one. */
        void product(Relation first, Relation second) {
            elements = first.elements;
            for (int from = 0; from < elements; from++) {
                first.rowInto(from, row);
                second.imageOf(row, row);
                putRow(from, row);
            }
        }

        /** Becomes the covers of another relation without a ring that is closed. */
        void takeCovers(Relation closed) {
            elements = closed.elements;
            for (int from = 0; from < elements; from++) {
                closed.rowInto(from, row);
                closed.imageOf(row, row);
                putWords(from, closed.lowAt(from) & ~row.low, closed.highAt(from) & ~row.high);
            }
        }

        void reverse() {
            for (int from = 1; from < elements; from++) {
                for (int to = 0; to < from; to++) {
                    if (holds(from, to) != holds(to, from)) {
                        swapPair(from, to);
                        swapPair(to, from);
                    }
                }
            }
        }

        private void swapPair(int from, int to) {
            putWords(from, lowAt(from) ^ Bits.lowRange(to, to + 1),
                    highAt(from) ^ Bits.highRange(to, to + 1));
        }

        void invert() {
            for (int from = 0; from < elements; from++) {
                rowInto(from, row);
                row.invert(0, elements);
                putRow(from, row);
            }
        }

        /** Becomes its closure: through each element in turn, walks are made pairs. */
        void closeUp() {
            for (int through = 0; through < elements; through++) {
                long lowBits = lowAt(through);
                long highBits = highAt(through);
                for (int from = 0; from < elements; from++) {
                    if (holds(from, through)) {
                        putWords(from, lowAt(from) | lowBits, highAt(from) | highBits);
                    }
                }
            }
        }

        /** Finds all to which pairs lead from a set; into can be the set itself. */
        void imageOf(Bits set, Bits into) {
            long lowBits = 0L;
            long highBits = 0L;
            int from = set.leastFrom(0);
            for (int passed = 0; passed < elements && from != NONE; passed++) {
                lowBits |= lowAt(from);
                highBits |= highAt(from);
                from = set.leastFrom(from + 1);
            }
            into.low = lowBits;
            into.high = highBits;
        }

        boolean hasAllOf(Relation other) {
            for (int from = 0; from < elements; from++) {
                if ((other.lowAt(from) & ~lowAt(from)) != 0L
                        || (other.highAt(from) & ~highAt(from)) != 0L) {
                    return false;
                }
            }
            return true;
        }

        boolean isLike(Relation other) {
            return hasAllOf(other) && other.hasAllOf(this);
        }

        boolean isTransitive() {
            for (int from = 0; from < elements; from++) {
                rowInto(from, row);
                imageOf(row, row);
                if ((row.low & ~lowAt(from)) != 0L || (row.high & ~highAt(from)) != 0L) {
                    return false;
                }
            }
            return true;
        }

        boolean everyTwoAre(int what) {
            for (int one = 1; one < elements; one++) {
                for (int other = 0; other < one; other++) {
                    if (!fits(what, holds(one, other), holds(other, one))) {
                        return false;
                    }
                }
            }
            return true;
        }

        private static boolean fits(int what, boolean leads, boolean leadsBack) {
            switch (what) {
                case TWO_WAYS:
                    return leads == leadsBack;
                case ONE_WAY:
                    return !leads || !leadsBack;
                default:
                    return leads || leadsBack;
            }
        }

        /** Tells whether two elements are in one class; this relation is closed. */
        boolean inOneClass(int one, int other) {
            return one == other || (holds(one, other) && holds(other, one));
        }

        /** Finds the least element of a class; this relation is closed. */
        int leastOfClass(int element) {
            for (int least = 0; least < element; least++) {
                if (inOneClass(least, element)) {
                    return least;
                }
            }
            return element;
        }

        /** Counts the classes by their least elements; this relation is closed. */
        int classesInside() {
            int found = 0;
            for (int element = 0; element < elements; element++) {
                if (leastOfClass(element) == element) {
                    found++;
                }
            }
            return found;
        }
    }

    /** What is found by going step after step. */
    private static final class Walks {
        private final Bits reached = new Bits();
        private final Bits fresh = new Bits();
        private final Bits left = new Bits();
        private final Bits blocked = new Bits();
        private final Bits free = new Bits();
        private final int[] order = new int[MOST_ELEMENTS];

        int stepsBetween(Relation relation, int from, int to) {
            int most = relation.elementsInside();
            leave(relation, from);
            for (int steps = 1; steps <= most; steps++) {
                if (fresh.holds(to)) {
                    return steps;
                }
                goOn(relation);
            }
            return NONE;
        }

        /** Finds all to which walks lead from an element. */
        void reachFrom(Relation relation, int from, Bits into) {
            int most = relation.elementsInside();
            leave(relation, from);
            for (int steps = 1; steps <= most && !fresh.isEmpty(); steps++) {
                goOn(relation);
            }
            into.become(reached);
        }

        private void leave(Relation relation, int from) {
            relation.rowInto(from, fresh);
            reached.become(fresh);
        }

        // Only elements that were reached just now can lead to one that was not reached before.
        private void goOn(Relation relation) {
            relation.imageOf(fresh, fresh);
            fresh.remove(reached);
            reached.unite(fresh);
        }

        /**
         * Returns the steps of the longest walk, NONE if there is a ring: without one, a walk
         * has each element once at most.
         */
        int longest(Relation relation) {
            int most = relation.elementsInside();
            fresh.clear();
            fresh.putRange(0, most, true);
            for (int steps = 0; steps < most; steps++) {
                relation.imageOf(fresh, fresh);
                if (fresh.isEmpty()) {
                    return steps;
                }
            }
            return NONE;
        }

        /** Finds the first order that keeps a relation. Returns whether there is one. */
        boolean findOrder(Relation relation) {
            int most = relation.elementsInside();
            left.clear();
            left.putRange(0, most, true);
            for (int place = 0; place < most && place < order.length; place++) {
                relation.imageOf(left, blocked);
                free.become(left);
                free.remove(blocked);
                int next = free.leastFrom(0);
                if (next == NONE) {
                    return false;
                }
                order[place] = next;
                left.putRange(next, next + 1, false);
            }
            return true;
        }

        /** Returns an element of the order that was found last. */
        int orderedAt(int place) {
            return place < 0 || place >= order.length ? NONE : order[place];
        }
    }

    /** The theorem: things that hold for all relations, found in two ways each. */
    private static final class Theorem {
        private final Walks walks = new Walks();
        private final Relation left = new Relation();
        private final Relation right = new Relation();
        private final Relation middle = new Relation();
        private final Bits row = new Bits();
        private final Bits other = new Bits();
        private final int[] leasts = new int[MOST_ELEMENTS];

        int wrongOfOne(Relation relation) {
            left.take(relation);
            left.closeUp();
            return wrongUnless(closureTellsWalks(relation)) + wrongUnless(classesPartElements())
                    + wrongUnless(orderKeeps(relation)) + wrongUnless(coversGiveClosure());
        }

        int wrongOfThree(Relation first, Relation second, Relation third) {
            return wrongUnless(isAssociative(first, second, third))
                    + wrongUnless(distributesBefore(first, second, third))
                    + wrongUnless(distributesBehind(first, second, third));
        }

        private static int wrongUnless(boolean isRight) {
            return isRight ? 0 : 1;
        }

        private boolean closureTellsWalks(Relation relation) {
            int most = relation.elementsInside();
            for (int from = 0; from < most; from++) {
                left.rowInto(from, row);
                walks.reachFrom(relation, from, other);
                if (!row.isLike(other)) {
                    return false;
                }
            }
            return true;
        }

        /** Checks that two elements are in one class just if their classes have one least. */
        private boolean classesPartElements() {
            int most = Math.min(left.elementsInside(), leasts.length);
            int found = 0;
            for (int element = 0; element < most; element++) {
                leasts[element] = left.leastOfClass(element);
                found += leasts[element] == element ? 1 : 0;
                for (int before = 0; before < element; before++) {
                    boolean isOne = leasts[before] == leasts[element];
                    if (isOne != left.inOneClass(before, element)) {
                        return false;
                    }
                }
            }
            return found == left.classesInside();
        }

        /** Checks that there is an order just without a ring, and that it keeps the relation. */
        private boolean orderKeeps(Relation relation) {
            boolean isRingless = left.ownPairs() == 0;
            if (!walks.findOrder(relation)) {
                return !isRingless;
            }
            Bits passed = other;
            passed.clear();
            int most = relation.elementsInside();
            for (int place = 0; place < most; place++) {
                int element = walks.orderedAt(place);
                passed.putRange(element, element + 1, true);
                relation.rowInto(element, row);
                if (row.meets(passed)) {
                    return false;
                }
            }
            return isRingless && passed.size() == most;
        }

        /** Checks that the closure of the covers is the closure, if there is no ring. */
        private boolean coversGiveClosure() {
            if (left.ownPairs() != 0) {
                return true;
            }
            right.takeCovers(left);
            right.closeUp();
            return right.isLike(left);
        }

        private boolean isAssociative(Relation first, Relation second, Relation third) {
            middle.product(first, second);
            left.product(middle, third);
            middle.product(second, third);
            right.product(first, middle);
            return left.isLike(right);
        }

        private boolean distributesBefore(Relation first, Relation second, Relation third) {
            middle.take(second);
            middle.mix(third, EITHER);
            left.product(first, middle);
            middle.product(first, second);
            right.product(first, third);
            right.mix(middle, EITHER);
            return left.isLike(right);
        }

        private boolean distributesBehind(Relation first, Relation second, Relation third) {
            middle.take(first);
            middle.mix(second, EITHER);
            left.product(middle, third);
            middle.product(first, third);
            right.product(second, third);
            right.mix(middle, EITHER);
            return left.isLike(right);
        }
    }
}
