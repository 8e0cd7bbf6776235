import java.io.IOException;

/**
 * Each sentence of the document that names a boundary case, by a test of its own (see src/test/boundary):
 * too small, too large, empty, full, a wrap-around, a refused call, and what stays behind that one.
 */
public final class BoundaryTest {
    private BoundaryTest() {
    }

    public static void main(String[] args) throws IOException {
        Sentences.open();
        WholeBoundaries.run();
        TermsBoundaries.run();
        TextBoundaries.run();
        BeamsBoundaries.run();
        RowsBoundaries.run();
        SettlingBoundaries.run();
        Sentences.claimedAll("Terms", "");
        for (int promise = 1; promise <= 16; promise++) {
            Sentences.claimedAll("Promise " + promise, "`[^`]*`");
        }
        if (!Sentences.close()) {
            System.exit(1);
        }
    }
}
