import java.nio.file.Path;

/** All promises: each sentence of the document that names a boundary case has a test of its own, told by its words. */
public final class EdgeTest {
    public static void main(String[] args) throws Exception {
        Edges edges = new Edges("EdgeTest", Path.of("../shared/DOC.md"));
        new TextEdges(edges).all();
        new HandEdges(edges).all();
        new WaterEdges(edges).all();
        new PastEdges(edges).all();
        edges.end();
    }
}
