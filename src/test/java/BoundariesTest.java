import java.io.IOException;

/** Each sentence of the document that names a boundary, in the document's order, with a test of its own. */
public final class BoundariesTest {
    private BoundariesTest() {
    }

    public static void main(String[] args) throws IOException {
        Sentences.read();
        TermBoundaries.all();
        VerdictBoundaries.all();
        TokenBoundaries.all();
        LogBoundaries.all();
        ThingBoundaries.all();
        ActBoundaries.all();
        QuestionBoundaries.all();
        RefusedCalls.all();
        Sentences.noneIsLeftOut();
        Check.end();
    }
}
