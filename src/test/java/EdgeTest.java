/** Each sentence of the document that names an edge, with a test of its own. */
public final class EdgeTest {
    private EdgeTest() { }

    public static void main(String[] args) {
        EdgesOfPrices.all();
        EdgesOfIndices.all();
        EdgesOfTelling.all();
        EdgesOfAsking.all();
        Edge.end("EdgeTest");
    }
}
