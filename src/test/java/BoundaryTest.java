/** Every sentence of the document that names a boundary case, by its promise and its words. */
public final class BoundaryTest {
    public static void main(String[] args) throws java.io.IOException {
        Checks c = new Checks();
        new TapeBounds(c).all();
        new OrderBounds(c).all();
        new FunctionBounds(c).all();
        new CountBounds(c).all();
        new MapBounds(c).all();
        if (!c.end()) {
            System.exit(1);
        }
    }
}
