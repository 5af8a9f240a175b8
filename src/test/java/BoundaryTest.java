/** Each sentence of the document that names a boundary has a test of its own, under its promise. */
public final class BoundaryTest {
    private BoundaryTest() {
    }

    public static void main(String[] arguments) {
        Checks checks = new Checks("BoundaryTest");
        Boundaries[] all = {new BoundariesOfChanges(checks), new BoundariesOfTelling(checks),
            new BoundariesOfWhatIf(checks), new BoundariesOfTexts(checks), new BoundariesOfUndo(checks),
            new BoundariesOfErrors(checks)};
        for (Boundaries boundaries : all) {
            boundaries.run();
        }
        checks.everyPromise(25);
        checks.end();
    }
}
