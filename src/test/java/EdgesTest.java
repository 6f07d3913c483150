/**
 * Each sentence of the document by a test of its own, on both sides of the boundary that it names;
 * a sentence that no test is about is a fault too.
 */
public final class EdgesTest {
  private EdgesTest() {}

  public static void main(String[] args) {
    Edges edges = new Edges();
    new FaceEdges(edges).all();
    new TermsEdges(edges).all();
    new ShapesEdges(edges).all();
    new RowsEdges(edges).all();
    new ReadersEdges(edges).all();
    new TextEdges(edges).all();
    new LooksEdges(edges).all();
    new WouldBeEdges(edges).all();
    edges.end("EdgesTest", "What it is", "Not promised");
  }
}
