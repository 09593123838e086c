import java.lang.reflect.Constructor;
import java.lang.reflect.Field;
import java.lang.reflect.Method;
import java.math.BigInteger;
import java.util.Random;

/** The wide numbers inside the class, against BigInteger. */
public final class WideTest {
    private static final Random RANDOM = new Random(5);

    private static Class<?> wide;

    public static void main(String[] args) throws ReflectiveOperationException {
        wide = Class.forName("Cubeyard$Wide");
        for (int i = 0; i < 20000; i++) {
            products(factor(), factor(), factor());
            cubes(RANDOM.nextInt(524281), factor() >>> 7);
        }
        Check.close();
    }

    private static long factor() {
        switch (RANDOM.nextInt(8)) {
            case 0:
                return (1L << 60) - 1;
            case 1:
                return 0;
            case 2:
                return (1L << RANDOM.nextInt(60)) - 1;
            default:
                return RANDOM.nextLong() >>> (4 + RANDOM.nextInt(60));
        }
    }

    private static Object make() throws ReflectiveOperationException {
        Constructor<?> maker = wide.getDeclaredConstructor();
        maker.setAccessible(true);
        return maker.newInstance();
    }

    private static Object call(Object on, String name, Class<?>[] types, Object... told)
            throws ReflectiveOperationException {
        Method method = wide.getDeclaredMethod(name, types);
        method.setAccessible(true);
        return method.invoke(on, told);
    }

    private static BigInteger valueOf(Object number) throws ReflectiveOperationException {
        Field field = wide.getDeclaredField("limbs");
        field.setAccessible(true);
        BigInteger value = BigInteger.ZERO;
        long[] limbs = (long[]) field.get(number);
        for (int i = limbs.length - 1; i >= 0; i--) {
            value = value.shiftLeft(30).add(BigInteger.valueOf(limbs[i]));
        }
        return value;
    }

    private static void products(long one, long other, long third) throws ReflectiveOperationException {
        Class<?>[] two = {long.class, long.class};
        Class<?>[] numbers = {wide, wide};
        Object left = make();
        Object right = make();
        Object gap = make();
        call(left, "setProduct", two, one, other);
        call(left, "multiplyBy", new Class<?>[] {long.class}, third);
        call(right, "setProduct", two, third, other);
        BigInteger leftDue = BigInteger.valueOf(one).multiply(BigInteger.valueOf(other)).multiply(BigInteger.valueOf(third));
        BigInteger rightDue = BigInteger.valueOf(third).multiply(BigInteger.valueOf(other));
        String what = one + ", " + other + ", " + third;
        Check.due("product of " + what, valueOf(left), leftDue);
        Check.due("product of the last two of " + what, valueOf(right), rightDue);
        call(gap, "setGap", numbers, left, right);
        Check.due("gap of " + what, valueOf(gap), leftDue.subtract(rightDue).abs());
        call(gap, "setGap", numbers, right, left);
        Check.due("gap, turned, of " + what, valueOf(gap), leftDue.subtract(rightDue).abs());
        Class<?>[] number = {wide};
        Check.due("less: " + what, call(left, "isLess", number, right), leftDue.compareTo(rightDue) < 0);
        Check.due("less, turned: " + what, call(right, "isLess", number, left), leftDue.compareTo(rightDue) > 0);
        Check.due("less than itself: " + what, call(left, "isLess", number, left), false);
    }

    private static void cubes(int factor, long side) throws ReflectiveOperationException {
        Object cube = make();
        call(cube, "setCube", new Class<?>[] {long.class, long.class}, (long) factor, side);
        Check.due("cube of " + side + " times " + factor, valueOf(cube),
                BigInteger.valueOf(side).pow(3).multiply(BigInteger.valueOf(factor)));
    }
}
