import java.io.IOException;

/** The boundary cases that the document names, sentence by sentence. */
public final class EdgesTest {
    public static void main(String[] args) throws IOException {
        Edges edges = new Edges();
        new TermEdges(edges).look();
        new TextEdges(edges).look();
        new BackEdges(edges).look();
        new DoorEdges(edges).look();
        new HappeningEdges(edges).look();
        edges.end();
    }
}
