import java.nio.file.Path;

/** Every sentence of the document's terms and promises, at the boundary cases that it names. */
public final class BoundariesTest extends Boundaries {
    private BoundariesTest() {
    }

    public static void main(String[] args) throws Exception {
        open(Path.of("..", "shared", "DOC.md"));
        TermBoundaries.all();
        TextBoundaries.all();
        PictureBoundaries.all();
        GridBoundaries.all();
        SmoothingBoundaries.all();
        AlikeBoundaries.all();
        ActBoundaries.all();
        everyWordIsQuoted();
        end("every sentence holds at its boundaries");
    }
}
