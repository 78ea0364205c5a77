import java.io.IOException;

/**
 * Each sentence of the document that names a boundary: the last value that is taken and the first one that is not, at
 * both ends, the empty and the full object, what goes round, and each refused call with its answer and nothing changed
 * behind it.
 */
public final class BoundariesTest {
    private BoundariesTest() {
    }

    public static void main(String[] args) throws IOException {
        TermsBoundaries.all();
        ToldBoundaries.all();
        AskedBoundaries.all();
        RefusedCalls.all();
        Sentences.end();
    }
}
