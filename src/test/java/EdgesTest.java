import java.io.IOException;

/** Every sentence of the document that names a case at the edge, each with answers of its own. */
final class EdgesTest {
    private EdgesTest() {
    }

    public static void main(String[] args) throws IOException {
        Edges edges = new Edges();
        TapeEdges.ask(edges);
        TextEdges.ask(edges);
        YearEdges.ask(edges);
        DrawnEdges.ask(edges);
        AskingEdges.ask(edges);
        CrewEdges.ask(edges);
        SkyEdges.ask(edges);
        LogEdges.ask(edges);
        edges.finish();
    }
}
