/** A test of its own for each sentence of the document that names a boundary. */
public final class BoundaryTest {
    private BoundaryTest() {
    }

    public static void main(String[] args) {
        TermsBoundaries.all();
        WritingBoundaries.all();
        SignsBoundaries.all();
        TimeBoundaries.all();
        PitchesBoundaries.all();
        WouldBeBoundaries.all();
        Boundary.allTold();
        Check.finish();
    }
}
