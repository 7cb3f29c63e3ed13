import java.io.IOException;

/**
 * For every sentence of the document that names an edge a test of its own, with the sentence at its head.
 * Behind them all the document is gone through: a sentence that no test has at its head is told.
 */
public final class EdgesTest {
    static final Check CHECK = new Check("edges");

    public static void main(String[] args) throws IOException {
        TextEdges.all();
        FamilyEdges.all();
        DayEdges.all();
        KnowingEdges.all();
        WhoseEdges.all();
        DeedEdges.all();
        ChanceEdges.all();
        YearEdges.all();
        RefusalEdges.all();
        CHECK.by("the document");
        if (Document.isThere()) {
            new Document().compare(CHECK);
        } else {
            System.out.println("edges: there is no document here to compare the tests' heads with");
        }
        CHECK.close();
    }
}
