/** Each sentence of the document that names an edge, by a test of its own that says which sentence it is of. */
final class EdgesTest {
    public static void main(String[] args) throws java.io.IOException {
        Sentences.read();
        TextEdges.run();
        RankEdges.run();
        SearchEdges.run();
        GuidedEdges.run();
        ChangeEdges.run();
        AskEdges.run();
        ThoughtEdges.run();
        Refusals.run();
        LimitEdges.run();
        Sentences.allHaveTests();
        Check.end();
    }
}
