/** Objects made ready for a test, and all that can be seen of one. */
final class Made {
    private Made() {
    }

    static Relationrows of(int elements) {
        Relationrows x = new Relationrows();
        x.begin(elements);
        return x;
    }

    /** Gives a relation pairs, each written as from, to. */
    static void give(Relationrows x, int relation, int... pairs) {
        for (int i = 0; i + 1 < pairs.length; i += 2) {
            x.set(relation, pairs[i], pairs[i + 1], true);
        }
    }

    /** An object with all pairs in relation 0. */
    static Relationrows full(int elements) {
        return full(elements, 0);
    }

    static Relationrows full(int elements, int relation) {
        Relationrows x = of(elements);
        x.oppose(relation);
        return x;
    }

    /** An object with just these pairs in relation 0. */
    static Relationrows with(int elements, int... pairs) {
        Relationrows x = of(elements);
        give(x, 0, pairs);
        return x;
    }

    /** Tells a row as it can be asked: its words, without zeros in front. */
    static String row(Relationrows x, int relation, int from) {
        return Long.toHexString(x.wordOf(relation, from, 1)) + "."
                + Long.toHexString(x.wordOf(relation, from, 0));
    }

    /**
     * Tells a relation in 25 calls at most: every row if there are few elements, else those at
     * the edges of the words, and how many pairs there are.
     */
    static String relation(Relationrows x, int relation, int elements) {
        StringBuilder text = new StringBuilder();
        text.append(" relation ").append(relation).append(':').append(x.count(relation));
        for (int from = 0; from < elements; from++) {
            if (elements <= 12 || from < 2 || from > 62 && from < 66 || from > 77) {
                text.append(' ').append(row(x, relation, from));
            }
        }
        return text.toString();
    }

    /** Tells the relations and the marks of an object in 200 calls at most. */
    static String state(Relationrows x, int elements) {
        StringBuilder text = new StringBuilder();
        for (int relation = 0; relation < 4; relation++) {
            text.append(relation(x, relation, elements));
        }
        text.append(" marks:");
        int marks = x.mark(elements, elements, true);
        for (int index = 0; index < marks; index++) {
            text.append(' ').append(x.markedAt(index));
        }
        return text.append(" end ").append(x.endOfMarks()).toString();
    }

    /** Tells the same of an object and how many elements there are, which begins it anew. */
    static String stateAndSize(Relationrows x, int elements) {
        return state(x, elements) + " of " + x.begin(1);
    }
}
