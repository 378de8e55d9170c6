import java.io.IOException;

/**
 * Each sentence of the document, with the edges that it names: the least and the greatest that is allowed, the next one
 * beyond each, nothing and everything, and calls that are refused and change nothing.
 */
public final class BoundaryTests {
    private BoundaryTests() {
    }

    public static void main(String[] args) throws IOException {
        Bounds bounds = new Bounds();
        new WholeBoundaries(bounds).test();
        new PadBoundaries(bounds).test();
        new ChangeBoundaries(bounds).test();
        new ValueBoundaries(bounds).test();
        new QuestionBoundaries(bounds).test();
        bounds.end();
    }
}
