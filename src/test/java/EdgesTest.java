/** Each sentence of the document that names a boundary case, quoted ahead of its own test. */
public final class EdgesTest {
    public static void main(String[] args) {
        TermsEdges.run();
        BeatEdges.run();
        ComingEdges.run();
        AskingEdges.run();
        WouldBeEdges.run();
        Sentence.demandAll();
        Due.end();
    }
}
