/** Every sentence of the document that names a bound, with a test that names the sentence. */
final class EdgesTest {
    private EdgesTest() {
    }

    public static void main(String[] args) {
        TextEdges.run();
        TermEdges.run();
        StampEdges.run();
        VersionEdges.run();
        UnsureEdges.run();
        ActEdges.run();
        Edge.end();
    }
}
