/** Every sentence of the document that names a bound, each with a test of its own. */
public final class EdgesTest {
    public static void main(String[] args) {
        Edges edges = new Edges();
        MemoryEdges.all(edges);
        ProcessorEdges.all(edges);
        OperationEdges.all(edges);
        VideoEdges.all(edges);
        KeyEdges.all(edges);
        LanguageEdges.all(edges);
        DrawEdges.all(edges);
        CallEdges.all(edges);
        edges.end();
    }
}
