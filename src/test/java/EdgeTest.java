/** Each sentence of the document by itself: at its boundary, on both sides of it, and that what is refused does nothing. */
public final class EdgeTest {
    private EdgeTest() {
    }

    public static void main(String[] args) throws java.io.IOException {
        TextEdges.all();
        TapeEdges.all();
        UseEdges.all();
        ActEdges.all();
        LookEdges.all();
        WayEdges.all();
        TryEdges.all();
        Edge.finish();
    }
}
