import java.lang.reflect.Method;

/** The edge of each of the volumes is that of StrictMath.cbrt, bit by bit, and so is all that is read of it. */
public final class RootTest {
    public static void main(String[] args) throws ReflectiveOperationException {
        Method ofVolume = Class.forName("Cubeyard$Edges").getDeclaredMethod("ofVolume", int.class);
        ofVolume.setAccessible(true);
        for (int kind = 0; kind < 4; kind++) {
            for (int count = 0; count <= 65535; count++) {
                double edge = new Model.Cube(count, kind % 2 == 1, kind >= 2).edge();
                Check.due("the edge of " + count + " of kind " + kind, ofVolume.invoke(null, 4 * count + kind),
                        Double.doubleToLongBits(edge));
                looks(count, kind, edge);
            }
        }
        Check.close();
    }

    private static void looks(int count, int kind, double edge) {
        String what = count + " of kind " + kind;
        Cubeyard yard = new Cubeyard();
        int fine = (int) (1024 * edge);
        Check.due("put " + what, yard.put(0, count, kind % 2 == 1, kind >= 2), fine);
        Check.due("fine of " + what, yard.fine(0), fine);
        Check.due("whole of " + what, yard.whole(0), (int) edge);
        Check.due("coarse of " + what, yard.coarse(0), fine / 1024.0);
        boolean isExact = 2 * edge == Math.rint(2 * edge);
        Check.due("isExact of " + what, yard.isExact(0), isExact);
        Object bits = isExact ? (Object) Double.doubleToLongBits(edge) : "throws.ArithmeticException";
        Check.due("bits of " + what, Check.outcome(() -> yard.bits(0)), bits);
        Check.holds("isNear of " + what, yard.isNear(0));
    }
}
