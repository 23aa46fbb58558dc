import java.nio.file.Path;

/** Every sentence of the document: each is quoted with its promise, looked at, and none is left out. */
public final class EdgesTest {
    public static void main(String[] args) throws Exception {
        Check.readDoc(Path.of("../shared/DOC.md"));
        RowsEdges.all();
        TextsEdges.all();
        LookedEdges.all();
        ActsEdges.all();
        ForetoldEdges.all();
        GuessedEdges.all();
        AskedEdges.all();
        RefusedEdges.all();
        Check.nothingIsLeft();
        Check.end();
    }
}
