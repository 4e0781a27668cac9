/** What each sentence of the document names as an edge: the last that is taken and the first that is refused. */
public final class EdgeTest {
    public static void main(String[] args) throws Exception {
        TextEdges.test();
        ChangeEdges.test();
        OrderEdges.test();
        SearchEdges.test();
        ParseEdges.test();
        Edges.isDocumentCovered();
        Due.end();
    }
}
