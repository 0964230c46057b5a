import java.nio.file.Files;
import java.nio.file.Path;

/** The whole document from its first line to its last, sentence by sentence, each with what would fail if it were broken. */
public final class DocumentTest {
    public static void main(String[] args) throws Exception {
        Walk walk = new Walk(Files.readString(Path.of("../shared/DOC.md")));
        YardWalk.all(walk);
        RunWalk.all(walk);
        ThoughtWalk.all(walk);
        ShelfWalk.all(walk);
        JointWalk.all(walk);
        AheadWalk.all(walk);
        TruthWalk.all(walk);
        walk.end();
    }
}
