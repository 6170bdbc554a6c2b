import java.io.IOException;

/** Each sentence of the document that names a boundary has a test of its own: none may be left out. */
public final class BoundariesTest {
    private BoundariesTest() {
    }

    public static void main(String[] args) throws IOException {
        Doc.open();
        BoundaryTerms.all();
        BoundaryTexts.all();
        BoundaryTold.all();
        BoundaryJudged.all();
        BoundarySought.all();
        Doc.close();
        Check.done("BoundariesTest");
    }
}
