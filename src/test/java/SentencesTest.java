/** The document sentence by sentence, each with runs of calls at its edges: too small, too large, empty, full, round. */
public final class SentencesTest {
    public static void main(String[] args) {
        TermsEdges.all();
        ArriveEdges.all();
        StreamEdges.all();
        SendEdges.all();
        AlarmEdges.all();
        PromiseEdges.all();
        Sentence.allAreQuoted();
        Script.finish();
    }
}
