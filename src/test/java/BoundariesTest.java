import java.io.IOException;
import java.nio.file.Path;

/** Each sentence of the document that names a boundary case, by its own words. */
public final class BoundariesTest {
    private BoundariesTest() {
    }

    public static void main(String[] args) throws IOException {
        Due due = new Due("BoundariesTest");
        Sentences sentences = new Sentences(due, Path.of("../shared/DOC.md"));
        new PointBoundaries(due, sentences).run();
        new BendBoundaries(due, sentences).run();
        new LyingBoundaries(due, sentences).run();
        new TriangleBoundaries(due, sentences).run();
        new ThingBoundaries(due, sentences).run();
        new KeptBoundaries(due, sentences).run();
        new RefusedBoundaries(due, sentences).run();
        sentences.end();
        due.end();
    }
}
