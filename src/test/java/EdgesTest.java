import java.io.IOException;

/** Each sentence of the document that names a boundary has calls of its own. */
public final class EdgesTest {
    public static void main(String[] args) throws IOException {
        Edges edges = new Edges();
        TermsEdges.add(edges);
        ActsEdges.add(edges);
        TellsEdges.add(edges);
        edges.nothingIsLeft();
        Due.end("EdgesTest");
    }
}
