import java.io.IOException;

/** A test of its own for each sentence of the document that names a boundary case. */
public final class EdgesTest {
    private EdgesTest() {
    }

    public static void main(String[] args) throws IOException {
        TermsEdges.all();
        BatchEdges.all();
        ChangeEdges.all();
        BuildingEdges.all();
        DoingEdges.all();
        TellingEdges.all();
        TextEdges.all();
        Sentences.cover();
        Due.close();
    }
}
