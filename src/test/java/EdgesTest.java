import java.io.IOException;

/** Each sentence of the document, with the cases at its boundaries. */
public final class EdgesTest {
    private EdgesTest() {
    }

    public static void main(String[] args) throws IOException {
        Document.read();
        DescriptionEdges.check();
        KeptEdges.check();
        TextEdges.check();
        ZoneEdges.check();
        RecordEdges.check();
        QuestionEdges.check();
        Document.end();
        Due.end();
    }
}
