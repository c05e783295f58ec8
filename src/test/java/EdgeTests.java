/** Tests of the sentences of a part of the document. */
abstract class EdgeTests {
    /** How many elements there are: the ends, the usual number, and around the words. */
    static final int[] SIZES = {1, 2, 12, 63, 64, 65, 79, 80};

    final Edges edges;
    final Check check;

    EdgeTests(Edges edges) {
        this.edges = edges;
        check = edges.check;
    }

    abstract void runAll();
}
