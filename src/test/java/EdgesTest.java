import java.io.IOException;

/** Every sentence of the document that tells of an edge, with checks of its own. */
public final class EdgesTest {
    private EdgesTest() {
    }

    public static void main(String[] args) throws IOException {
        Edges e = new Edges();
        EdgePart[] parts = {new EdgesOfTerms(e), new EdgesOfRows(e), new EdgesOfTexts(e), new EdgesOfGloves(e),
            new EdgesOfDeeds(e), new EdgesOfMakings(e), new EdgesOfGuesses(e), new EdgesOfChances(e),
            new EdgesOfWhatIsTold(e)};
        for (EdgePart part : parts) part.all();
        e.end();
    }
}
