import java.io.IOException;

/** Each sentence of the document that names a boundary: what is still allowed, what is refused, empty and full. */
public final class BoundaryTest {
    public static void main(String[] args) throws IOException {
        Boundary b = new Boundary();
        TermsBoundary.check(b);
        FormulasBoundary.check(b);
        LinesBoundary.check(b);
        TreesBoundary.check(b);
        PlanesBoundary.check(b);
        PolynomialsBoundary.check(b);
        BetweenBoundary.check(b);
        UnitsBoundary.check(b);
        QuantorsBoundary.check(b);
        WholeBoundary.check(b);
        OrderBoundary.check(b);
        b.end("BoundaryTest");
    }
}
