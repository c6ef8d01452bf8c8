import java.io.IOException;

/** Each sentence of the document, from its first line to its last, with a test of its own. */
public final class SentencesTest {
    private SentencesTest() {
    }

    public static void main(String[] args) throws IOException {
        Sentences.read();
        TermBoundaries.all();
        VerdictBoundaries.all();
        TokenBoundaries.all();
        LogBoundaries.all();
        Interface.all();
        ThingBoundaries.all();
        ActBoundaries.all();
        QuestionBoundaries.all();
        ThingSentences.all();
        ProcessSentences.all();
        ActSentences.all();
        RefusedCalls.all();
        Sentences.noneIsLeftOut();
        Check.end();
    }
}
