import java.io.IOException;
import java.nio.file.Files;
import java.nio.file.Path;

/**
 * Each sentence of the document that names a boundary: the values just inside and just outside, empty and full,
 * refused calls and their order. Argument: the document, with which the quoted sentences are compared if it is there.
 */
public final class BoundsTest {
    public static void main(String[] args) throws IOException {
        Desk desk = new Desk();
        Path document = Path.of(args.length > 0 ? args[0] : "../shared/DOC.md");
        if (Files.isReadable(document)) {
            desk.read(document);
        }
        new BoundsNetwork(desk).run();
        new BoundsDistance(desk).run();
        new BoundsCenter(desk).run();
        new BoundsScript(desk).run();
        new BoundsChange(desk).run();
        if (desk.finish() > 0) {
            System.exit(1);
        }
    }
}
