import java.nio.file.Files;
import java.nio.file.Path;

/** Each sentence of the document that names a boundary case: the last value that is allowed, the first that is not. */
public final class EdgeTest {
    public static void main(String[] args) throws Exception {
        Edges edges = new Edges(Files.readString(Path.of(args[0])));
        new TellingEdges(edges).all();
        new DriftEdges(edges).all();
        new WishEdges(edges).all();
        new FloatEdges(edges).all();
        new ActEdges(edges).all();
        if (edges.end() != 0) {
            System.exit(1);
        }
    }
}
