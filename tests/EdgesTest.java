/** Promises 1 to 41: for each sentence that names a boundary case, what is just inside and just outside. */
public final class EdgesTest {
    private static final int LAST_PROMISE = 41;

    public static void main(String[] args) {
        Edges edges = new Edges();
        new BoxEdges(edges).all();
        new BraceletEdges(edges).all();
        new AlikeEdges(edges).all();
        new MotifEdges(edges).all();
        new ListEdges(edges).all();
        new PredictionEdges(edges).all();
        new TextEdges(edges).all();
        new UndoEdges(edges).all();
        edges.finish(LAST_PROMISE);
    }
}
