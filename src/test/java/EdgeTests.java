import java.io.IOException;

/** Each sentence of the document that names a boundary case, on both sides of it. */
public final class EdgeTests {
    public static void main(String[] args) throws IOException {
        Edge edge = new Edge();
        new EdgesOfGround(edge).all();
        new EdgesOfPaths(edge).all();
        new EdgesOfDigging(edge).all();
        new EdgesOfDays(edge).all();
        new EdgesOfLaws(edge).all();
        new EdgesOfTexts(edge).all();
        new EdgesOfTelling(edge).all();
        edge.close();
    }
}
