/** Each sentence of the document with a test of its own, at its edges and on either side of them. */
public final class EdgesTest {
    public static void main(String[] args) {
        TextEdges.run();
        RoadEdges.run();
        SearchEdges.run();
        MinutesEdges.run();
        Says.finish();
        Check.finish();
    }
}
