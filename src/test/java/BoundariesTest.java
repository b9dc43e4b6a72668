import java.io.IOException;

/**
 * Each sentence of the document, quoted, with a test of its own of the cases
 * at the boundary that it names. Run it from the project's folder.
 */
public final class BoundariesTest {
    private BoundariesTest() {
    }

    public static void main(String[] args) throws IOException {
        Sentences s = new Sentences();
        MeasureBounds.all(s);
        ChainBounds.all(s);
        DrawingBounds.all(s);
        GapBounds.all(s);
        ChanceBounds.all(s);
        CareBounds.all(s);
        LotBounds.all(s);
        ShimBounds.all(s);
        ImageBounds.all(s);
        if (!s.hold()) {
            System.exit(1);
        }
    }
}
