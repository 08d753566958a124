import java.io.IOException;
import java.nio.file.Path;

/**
 * Each sentence of the document that names an edge (too small, too large, empty, full, round about, refused), with
 * a run of calls of its own; fails, too, if the document names one that has none.
 */
public final class EdgesTest {
    public static void main(String[] args) throws IOException {
        Edges edges = new Edges(new Document(Path.of("../shared/DOC.md")));
        EdgesOfTerms.all(edges);
        EdgesOfRows.all(edges);
        EdgesOfTables.all(edges);
        EdgesOfEvenings.all(edges);
        EdgesOfWholeEvenings.all(edges);
        EdgesOfWeeks.all(edges);
        EdgesOfBonesAndFamine.all(edges);
        EdgesOfTold.all(edges);
        edges.end();
    }
}
