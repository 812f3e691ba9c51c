/** Boundary cases of promises 1 to 20, each named by its promise and its sentence. */
final class EdgesTest {
    public static void main(String[] args) {
        Edges edges = new Edges();
        new EdgesOfState(edges).tryAll();
        new EdgesOfMeasures(edges).tryAll();
        new EdgesOfMeans(edges).tryAll();
        new EdgesOfRows(edges).tryAll();
        new EdgesOfClicks(edges).tryAll();
        edges.end();
    }
}
