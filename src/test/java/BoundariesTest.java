import java.io.IOException;
import java.nio.charset.StandardCharsets;
import java.nio.file.Files;
import java.nio.file.Path;

/**
 * Each sentence of the document with its boundary cases: too small, too large, empty, full, a
 * wrap-around, a refused call. Its arguments are the paths of PotLabels.java and of the document.
 */
public final class BoundariesTest {
    public static void main(String[] args) throws IOException {
        TermsEdges.all();
        StateEdges.all(Files.readString(Path.of(args[0]), StandardCharsets.ISO_8859_1));
        PotsEdges.all();
        LabelsEdges.all();
        TextsEdges.all();
        LooksEdges.all();
        WouldBeEdges.all();
        Sentences.compareWith(Path.of(args[1]));
        Check.finish();
    }
}
