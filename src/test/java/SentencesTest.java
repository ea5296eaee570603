/**
 * The document sentence by sentence, each with runs of calls of its own at its edges: too small, too large, empty,
 * full, round, refused. It fails, too, if some words of the document have no runs.
 */
public final class SentencesTest {
    public static void main(String[] args) {
        FirstLineEdges.all();
        TermsEdges.all();
        ArriveEdges.all();
        StreamEdges.all();
        SendEdges.all();
        AlarmEdges.all();
        PromiseEdges.all();
        Sentence.allAreQuoted();
        Script.finish();
    }
}
