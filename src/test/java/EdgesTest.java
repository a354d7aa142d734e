/** Each sentence of the document that names an edge has a test of its own, which quotes the sentence's words. */
public final class EdgesTest {

    public static void main(String[] args) {
        BoardEdges.run();
        MoveEdges.run();
        GameEdges.run();
        AskingEdges.run();
        OutlookEdges.run();
        Document.allPromisesWereQuoted();
        Checks.finish();
    }
}
