/** Every sentence of the document that names a boundary case: a test of its own for each. */
public final class BoundaryTest {
    public static void main(String[] arguments) {
        ShipBoundaries.run();
        ClearanceBoundaries.run();
        HourBoundaries.run();
        ChangeBoundaries.run();
        BerthBoundaries.run();
        IdBoundaries.run();
        LineBoundaries.run();
        CommandBoundaries.run();
        UndoBoundaries.run();
        ErrorBoundaries.run();
        Boundary.allAreCited();
        System.out.println(Boundary.tests() + " sentences have a test of their own");
        Check.end();
    }
}
