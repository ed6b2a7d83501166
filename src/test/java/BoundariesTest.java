/** Each boundary that the document's sentences name, by a test of its own under the sentence. */
public final class BoundariesTest {
    private BoundariesTest() {
    }

    public static void main(String[] args) {
        Clauses clauses = new Clauses();
        new FirstBoundaries(clauses).test();
        new TextBoundaries(clauses).test();
        new FeatureBoundaries(clauses).test();
        new BookBoundaries(clauses).test();
        new FaultBoundaries(clauses).test();
        new TellBoundaries(clauses).test();
        new FrameBoundaries(clauses).test();
        new WriteBoundaries(clauses).test();
        new RefusalBoundaries(clauses).test();
        clauses.end();
    }
}
