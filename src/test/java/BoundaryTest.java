import java.nio.file.Path;

/** Every sentence of the document that names a boundary case, each with a test of its own: see the *Bounds classes. */
public final class BoundaryTest {
    public static void main(String[] args) throws Exception {
        Check check = new Check("BoundaryTest");
        Document document = new Document(Path.of(args[0], "..", "shared", "DOC.md"));
        Boundaries bounds = new Boundaries(check, document);
        new TimeBounds(bounds).test();
        new WorksBounds(bounds).test();
        new MainsBounds(bounds).test();
        new FixturesBounds(bounds).test();
        new HoursBounds(bounds).test();
        new RoundsBounds(bounds).test();
        new WalkBounds(bounds).test();
        new RefusalBounds(bounds).test();
        for (String row : document.unclaimed()) {
            check.judge("a test of " + row, true, false);
        }
        check.judge("the document has rows", true, document.size() > 0);
        check.end();
    }
}
