/** Each sentence of the document that names a boundary case, at the edge and on both sides of it. */
final class EdgesTest {
    public static void main(String[] args) {
        Edges edges = new Edges();
        NodeEdges.all(edges);
        WayEdges.all(edges);
        MessageEdges.all(edges);
        SendEdges.all(edges);
        WatcherEdges.all(edges);
        TickEdges.all(edges);
        edges.end();
    }
}
