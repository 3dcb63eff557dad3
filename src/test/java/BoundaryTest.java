import java.io.IOException;

/** Each sentence of the document, with a test of its own for the boundaries that it names. */
public final class BoundaryTest {
    private BoundaryTest() {
    }

    public static void main(String[] args) throws IOException {
        TermsBoundaries.all();
        ExceptionBoundaries.all();
        OfficeBoundaries.all();
        ActBoundaries.all();
        ComplaintBoundaries.all();
        FindingBoundaries.all();
        QuestionBoundaries.all();
        Sentences.compareWithDocument();
        Check.end();
    }
}
