import java.lang.reflect.Constructor;
import java.lang.reflect.Field;
import java.lang.reflect.InvocationTargetException;
import java.lang.reflect.Method;
import java.math.BigDecimal;
import java.util.Random;

/**
 * The theorem is so for StrictMath.cbrt itself; and the class does not take it on trust: for edges that are beside
 * the right ones its parts say what they say when reckoned with BigDecimal.
 */
public final class TheoremTest {
    private static final BigDecimal TWO = new BigDecimal(2);

    private static Object theorem;
    private static final Random RANDOM = new Random(3);

    public static void main(String[] args) throws ReflectiveOperationException {
        Constructor<?> maker = Class.forName("Cubeyard$Theorem").getDeclaredConstructor();
        maker.setAccessible(true);
        theorem = maker.newInstance();
        theoremOfEachVolume();
        theoremOfTwoVolumes();
        wrongSigns();
        wrongRoots();
        wrongProducts();
        wrongSums();
        wrongOrders();
        wrongYards();
        Check.close();
    }

    private static Object part(String name, Class<?>[] types, Object... told) {
        try {
            Method part = theorem.getClass().getDeclaredMethod(name, types);
            part.setAccessible(true);
            return part.invoke(theorem, told);
        } catch (InvocationTargetException e) {
            return "throws." + e.getCause();
        } catch (ReflectiveOperationException e) {
            throw new IllegalStateException(e);
        }
    }

    private static Class<?>[] types(Class<?>... types) {
        return types;
    }

    private static long bits(double number) {
        return Double.doubleToLongBits(number);
    }

    private static void theoremOfEachVolume() {
        for (int count = 0; count <= 65535; count++) {
            for (int kind = 0; kind < 2; kind++) {
                Model.Cube cube = new Model.Cube(count, kind == 1, false);
                double number = cube.number().doubleValue();
                double edge = cube.edge();
                Check.due("(1) of " + number, bits(StrictMath.cbrt(-number)), bits(-edge));
                if (8 * number <= 65535) {
                    Check.due("(2) of " + number, StrictMath.cbrt(8 * number), 2 * edge);
                }
                Check.holds("(3) of " + number, Model.liesNear(cube));
                Check.holds("(5) of " + number,
                        count == 0 || edge > new Model.Cube(count - 1, kind == 1, false).edge());
                long fine = cube.fine();
                long wide = (long) cube.eighths() << 27;
                Check.holds("(8) of " + number, fine * fine * fine <= wide && (fine + 1) * (fine + 1) * (fine + 1) > wide);
            }
        }
        for (int whole = 0; whole <= 40; whole++) {
            Check.due("(4) of " + whole, StrictMath.cbrt(whole * whole * whole), (double) whole);
        }
    }

    private static Model.Cube any() {
        return new Model.Cube(RANDOM.nextInt(65536) >> RANDOM.nextInt(16), RANDOM.nextBoolean(), false);
    }

    private static void theoremOfTwoVolumes() {
        for (int i = 0; i < 200000; i++) {
            Model.Cube one = any();
            Model.Cube other = any();
            long product = (long) one.eighths() * other.eighths();
            if (product % 64 == 0 && product / 64 <= 65535) {
                Check.holds("(6) of " + one + other,
                        Model.isProduct(one, other, new Model.Cube((int) (product / 64), false, false)));
            } else if (product % 8 == 0 && product / 8 <= 65535) {
                Check.holds("(6) of " + one + other,
                        Model.isProduct(one, other, new Model.Cube((int) (product / 8), true, false)));
            }
            int sum = one.eighths() + other.eighths();
            if (one.count() > 0 && other.count() > 0 && sum % 8 == 0 && sum / 8 <= 65535) {
                Check.holds("(7) of " + one + other, Model.isBelowSum(one, other, new Model.Cube(sum / 8, false, false)));
            } else if (one.count() > 0 && other.count() > 0 && sum <= 65535) {
                Check.holds("(7) of " + one + other, Model.isBelowSum(one, other, new Model.Cube(sum, true, false)));
            }
        }
    }

    private static void wrongSigns() {
        Class<?>[] two = types(long.class, long.class);
        double[] edges = {0.0, -0.0, 0.5, -1.5, 3.0, -40.0, StrictMath.cbrt(2), -StrictMath.cbrt(65535)};
        for (double edge : edges) {
            for (double other : edges) {
                for (double told : new double[] {other, 2 * other, Math.nextUp(other)}) {
                    Check.due("(1): " + edge + ", " + told, part("isOpposite", two, bits(edge), bits(told)),
                            bits(told) == bits(-edge));
                    Check.due("(2): " + edge + ", " + told, part("isTwice", two, bits(edge), bits(told)),
                            bits(told) == bits(2 * edge));
                }
            }
        }
    }

    private static void wrongRoots() {
        Class<?>[] near = types(int.class, long.class);
        for (int i = 0; i < 20000; i++) {
            Model.Cube cube = any();
            if (cube.count() == 0) {
                continue;
            }
            double right = cube.edge();
            for (int ulps = -3; ulps <= 3; ulps++) {
                double edge = right + ulps * Math.ulp(right);
                BigDecimal ulp = new BigDecimal(Math.ulp(edge));
                BigDecimal root = new BigDecimal(edge);
                boolean isBetween = root.subtract(ulp).pow(3).compareTo(cube.number()) < 0
                        && root.add(ulp).pow(3).compareTo(cube.number()) > 0;
                Check.due("(3): " + cube + " and " + edge, part("isBetweenCubes", near, cube.eighths(), bits(edge)), isBetween);
                Check.due("(3): below " + cube + " and " + edge,
                        part("isBetweenCubes", near, cube.eighths(), bits(-edge)), isBetween);
            }
            Check.due("(3): " + cube + " and 0", part("isBetweenCubes", near, cube.eighths(), 0L), false);
            for (int gap = -1; gap <= 1; gap++) {
                long edge = bits((cube.fine() + gap) / 1024.0);
                Check.due("(8): " + cube + " and " + gap, part("isFine", near, cube.eighths(), edge), gap == 0);
            }
        }
    }

    private static void wrongProducts() {
        Class<?>[] three = types(long.class, long.class, long.class);
        for (int i = 0; i < 20000; i++) {
            double one = 0.5 + 40 * RANDOM.nextDouble() / (1 << RANDOM.nextInt(6));
            double other = 0.5 + 40 * RANDOM.nextDouble() / (1 << RANDOM.nextInt(6));
            double product = one * other;
            if (product < 0.5 || product > 41) {
                continue;
            }
            for (int ulps = -6; ulps <= 6; ulps++) {
                double told = product + ulps * Math.ulp(product);
                BigDecimal gap = new BigDecimal(one).multiply(new BigDecimal(other)).subtract(new BigDecimal(told)).abs();
                boolean isNear = gap.multiply(TWO.pow(50)).compareTo(new BigDecimal(told)) < 0;
                String what = "(6): " + one + ", " + other + ", " + told;
                Check.due(what, part("isNearProduct", three, bits(one), bits(other), bits(told)), isNear);
                Check.due(what + " below", part("isNearProduct", three, bits(-one), bits(other), bits(-told)), isNear);
                Check.due(what + " twice below", part("isNearProduct", three, bits(-one), bits(-other), bits(told)), isNear);
                Check.due(what + " signs", part("isNearProduct", three, bits(-one), bits(other), bits(told)), false);
            }
            Check.due("(6): 0", part("isNearProduct", three, bits(one), bits(other), 0L), false);
            Check.due("(6): of 0", part("isNearProduct", three, bits(one), bits(-0.0), bits(product)), false);
            Check.due("(6): both 0", part("isNearProduct", three, bits(0.0), bits(other), bits(-0.0)), true);
            Check.due("(6): far", part("isNearProduct", three, bits(0.5), bits(0.5), bits(40.0)), false);
            Check.due("(6): farther", part("isNearProduct", three, bits(40.0), bits(40.0), bits(0.5)), false);
        }
    }

    private static void wrongSums() {
        Class<?>[] three = types(long.class, long.class, long.class);
        for (int i = 0; i < 20000; i++) {
            double one = 0.5 + 20 * RANDOM.nextDouble() / (1 << RANDOM.nextInt(6));
            double other = 0.5 + 20 * RANDOM.nextDouble() / (1 << RANDOM.nextInt(6));
            double sum = one + other;
            for (int ulps = -2; ulps <= 2; ulps++) {
                double told = sum + ulps * Math.ulp(sum);
                boolean isLess = new BigDecimal(told).compareTo(new BigDecimal(one).add(new BigDecimal(other))) < 0;
                Check.due("(7): " + one + ", " + other + ", " + told,
                        part("isLessThanSum", three, bits(told), bits(one), bits(other)), isLess);
            }
        }
    }

    private static void wrongOrders() {
        Class<?>[] four = types(int.class, long.class, int.class, long.class);
        int one = 4 * 5;
        int two = 4 * 6;
        Check.due("(5): rising", part("isOrdered", four, one, bits(1.5), two, bits(1.75)), true);
        Check.due("(5): the same", part("isOrdered", four, one, bits(1.5), two, bits(1.5)), false);
        Check.due("(5): falling", part("isOrdered", four, one, bits(1.75), two, bits(1.5)), false);
        Check.due("(5): tells nothing", part("isOrdered", four, two, bits(1.5), one, bits(1.75)), true);
        Class<?>[] each = types(int.class, long.class);
        long right = bits(StrictMath.cbrt(5));
        Check.due("a right edge", part("holdsOf", each, one, right), true);
        Check.due("a wrong sign", part("holdsOf", each, one, right | Long.MIN_VALUE), false);
        Check.due("a wrong bit", part("holdsOf", each, one, right + 1), false);
        Check.due("two, in order", part("holdsOfTwo", four, one, right, two, bits(StrictMath.cbrt(6))), true);
        Check.due("two, turned", part("holdsOfTwo", four, one, bits(StrictMath.cbrt(6)), two, right), false);
        Check.due("two, turned again", part("holdsOfTwo", four, two, right, one, bits(StrictMath.cbrt(6))), false);
        Check.due("a wrong product", part("holdsOfTwo", four, one, right + 20, one, right + 20), false);
        // Eighths have no product that is a volume here, so that only the sum can tell.
        Check.due("a wrong sum", part("holdsOfTwo", four, 4 * 5 + 1, bits(0.5), 4 * 5 + 1, bits(0.5)), false);
        for (int whole = -40; whole <= 40; whole++) {
            Check.due("(4) of " + whole, part("isRootOfItsCube", types(int.class), whole), true);
        }
        Check.due("(4) of no volume", part("isRootOfItsCube", types(int.class), 41), true);
    }

    /** An edge that is wrong by one bit, at any place, makes the yard unsound. */
    private static void wrongYards() throws ReflectiveOperationException {
        Field field = Cubeyard.class.getDeclaredField("edges");
        field.setAccessible(true);
        for (int place = 0; place < 8; place++) {
            for (long wrong : new long[] {1L, Long.MIN_VALUE, 1L << 52}) {
                Cubeyard yard = new Cubeyard();
                for (int other = 0; other < 8; other++) {
                    yard.put(other, 100 * other + 3, other % 2 == 0, other % 3 == 0);
                }
                Check.holds("the yard is sound", yard.isSound());
                ((long[]) field.get(yard))[place] ^= wrong;
                Check.due("the yard with a wrong edge at " + place, yard.isSound(), false);
            }
        }
    }
}
