import java.io.IOException;

/** Sentence by sentence of the document, the edges that it names. */
public final class EdgeTest {
    public static void main(String[] args) throws IOException {
        Edges.open();
        TextEdges.run();
        RecordingEdges.run();
        StoreEdges.run();
        AskingEdges.run();
        Edges.close();
        if (Edges.wrong > 0) {
            System.out.println("EdgeTest: " + Edges.wrong + " are not as due");
            System.exit(1);
        }
        System.out.println("EdgeTest: " + Edges.edges + " edges hold");
    }
}
