import java.io.IOException;

/** Each sentence of the document that names a boundary case. */
public final class BoundaryTest {

    private BoundaryTest() {
    }

    public static void main(String[] args) throws IOException {
        Ranges.all();
        RowBoundaries.all();
        SealBoundaries.all();
        RunBoundaries.all();
        GateBoundaries.all();
        GameBoundaries.all();
        NoteBoundaries.all();
        Sentences.areTried();
        Check.end("BoundaryTest");
    }
}
