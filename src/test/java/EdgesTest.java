import java.nio.file.Files;
import java.nio.file.Path;

/** Every sentence of the document that names a boundary, with a test of its own. */
public final class EdgesTest {
    public static void main(String[] args) throws Exception {
        Edges edges = new Edges();
        ShelfEdges.all(edges);
        YardEdges.all(edges);
        TapeEdges.all(edges);
        JointEdges.all(edges);
        ChoiceEdges.all(edges);
        AheadEdges.all(edges);
        BookEdges.all(edges);
        TruthEdges.all(edges);
        Path document = Path.of("../shared/DOC.md");
        if (Files.isReadable(document)) {
            edges.holdAgainst(Files.readString(document));
        } else {
            System.out.println("EdgesTest: " + document + " is not here, so the sentences weren't held against it");
        }
        edges.end();
    }
}
