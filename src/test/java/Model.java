import java.math.BigDecimal;
import java.math.BigInteger;
import java.util.ArrayList;
import java.util.Arrays;
import java.util.Collections;
import java.util.List;
import java.util.NoSuchElementException;

/** The document once more, by other means: StrictMath.cbrt itself, BigDecimal, and searches without a shortcut. */
final class Model {
    record Cube(int count, boolean isEighths, boolean isBelow) {
        BigDecimal number() {
            BigDecimal size = new BigDecimal(isEighths ? count / 8.0 : count);
            return isBelow ? size.negate() : size;
        }

        double edge() {
            double number = isEighths ? count / 8.0 : count;
            return StrictMath.cbrt(isBelow ? -number : number);
        }

        int fine() {
            return (int) (edge() * 1024);
        }

        int eighths() {
            return number().multiply(new BigDecimal(8)).intValueExact();
        }

        int kind() {
            return (isEighths ? 1 : 0) + (isBelow ? 2 : 0);
        }

        boolean isAboveZero() {
            return !isBelow && count != 0;
        }

        boolean isExact() {
            return edge() * 2 == Math.rint(edge() * 2);
        }
    }

    private static final Cube NOTHING = new Cube(0, false, false);
    private static final int[][] FINES = {finesOfAll(false), finesOfAll(true)};

    private final Cube[] places = new Cube[8];
    private final List<Cube> tower = new ArrayList<>();

    Model() {
        Arrays.fill(places, NOTHING);
    }

    private static int[] finesOfAll(boolean isEighths) {
        int[] fines = new int[65536];
        for (int count = 0; count < fines.length; count++) {
            fines[count] = new Cube(count, isEighths, false).fine();
        }
        return fines;
    }

    private void look(int... told) {
        for (int place : told) {
            if (place < 0 || place > 7) {
                throw new IndexOutOfBoundsException();
            }
        }
    }

    private static Cube reduced(BigDecimal number, boolean isBelow) {
        BigDecimal size = number.abs();
        boolean isWhole = size.stripTrailingZeros().scale() <= 0;
        BigDecimal count = isWhole ? size : size.multiply(new BigDecimal(8));
        if (count.stripTrailingZeros().scale() > 0 || count.compareTo(new BigDecimal(65535)) > 0) {
            throw new ArithmeticException();
        }
        return new Cube(count.intValueExact(), !isWhole, isBelow);
    }

    int put(int place, int count, boolean isEighths, boolean isBelow) {
        look(place);
        if (count < 0 || count > 65535) {
            throw new IllegalArgumentException();
        }
        places[place] = new Cube(count, isEighths, isBelow);
        return places[place].fine();
    }

    int volume(int place) {
        look(place);
        return places[place].eighths();
    }

    int kind(int place) {
        look(place);
        return places[place].kind();
    }

    int fine(int place) {
        look(place);
        return places[place].fine();
    }

    int whole(int place) {
        look(place);
        return (int) places[place].edge();
    }

    double coarse(int place) {
        look(place);
        return places[place].fine() / 1024.0;
    }

    boolean isExact(int place) {
        look(place);
        return places[place].isExact();
    }

    long bits(int place) {
        look(place);
        if (!places[place].isExact()) {
            throw new ArithmeticException();
        }
        return Double.doubleToLongBits(places[place].edge());
    }

    int order(int place, int other) {
        look(place, other);
        double edge = places[place].edge();
        double otherEdge = places[other].edge();
        return edge < otherEdge ? -1 : edge > otherEdge ? 1 : 0;
    }

    int grow(int place, int step) {
        look(place);
        Cube cube = places[place];
        long count = (long) cube.count() + step;
        if (count < 0 || count > 65535) {
            throw new ArithmeticException();
        }
        places[place] = new Cube((int) count, cube.isEighths(), cube.isBelow());
        return Math.abs(places[place].fine()) - Math.abs(cube.fine());
    }

    int sort() {
        List<Integer> stood = new ArrayList<>(List.of(0, 1, 2, 3, 4, 5, 6, 7));
        Collections.sort(stood, (a, b) -> places[a].edge() < places[b].edge() ? -1
                : places[a].edge() > places[b].edge() ? 1 : 0);
        Cube[] before = places.clone();
        int moved = 0;
        for (int place = 0; place < 8; place++) {
            places[place] = before[stood.get(place)];
            moved += stood.get(place) == place ? 0 : 1;
        }
        return moved;
    }

    boolean opposite(int place, int into) {
        look(place, into);
        Cube cube = places[place];
        places[into] = new Cube(cube.count(), cube.isEighths(), !cube.isBelow());
        return isSame(places[into].edge(), -cube.edge());
    }

    boolean eightfold(int place, int into) {
        look(place, into);
        Cube cube = places[place];
        int count = cube.isEighths() ? cube.count() : 8 * cube.count();
        if (count > 65535) {
            throw new ArithmeticException();
        }
        places[into] = new Cube(count, false, cube.isBelow());
        return isSame(places[into].edge(), 2 * cube.edge());
    }

    boolean eighth(int place, int into) {
        look(place, into);
        Cube cube = places[place];
        if (cube.isEighths() && cube.count() % 8 != 0) {
            throw new ArithmeticException();
        }
        places[into] = new Cube(cube.isEighths() ? cube.count() / 8 : cube.count(), true, cube.isBelow());
        return isSame(2 * places[into].edge(), cube.edge());
    }

    boolean isNear(int place) {
        look(place);
        return liesNear(places[place]);
    }

    boolean multiply(int place, int other, int into) {
        look(place, other, into);
        Cube cube = places[place];
        Cube second = places[other];
        places[into] = reduced(cube.number().multiply(second.number()), cube.isBelow() != second.isBelow());
        return isProduct(cube, second, places[into]);
    }

    boolean add(int place, int other, int into) {
        look(place, other, into);
        Cube cube = places[place];
        Cube second = places[other];
        if (!cube.isAboveZero() || !second.isAboveZero()) {
            throw new IllegalArgumentException();
        }
        places[into] = reduced(cube.number().add(second.number()), false);
        return isBelowSum(cube, second, places[into]);
    }

    int find(int fine, boolean isEighths) {
        int[] fines = FINES[isEighths ? 1 : 0];
        for (int count = 0; count <= 65535; count++) {
            if (fines[count] >= fine) {
                return count;
            }
        }
        throw new ArithmeticException();
    }

    private static void lookAtCounts(int from, int many) {
        if (many < 0 || many > 256) {
            throw new IllegalArgumentException();
        }
        if (many > 0 && (from < 0 || (long) from + many - 1 > 65535)) {
            throw new IllegalArgumentException();
        }
    }

    int sum(int from, int many) {
        lookAtCounts(from, many);
        int sum = 0;
        for (int i = 0; i < many; i++) {
            sum += FINES[0][from + i];
        }
        return sum;
    }

    int exact(int from, int many) {
        lookAtCounts(from, many);
        int exact = 0;
        for (int i = 0; i < many; i++) {
            exact += new Cube(from + i, true, false).isExact() ? 1 : 0;
        }
        return exact;
    }

    private int height() {
        return tower.stream().mapToInt(Cube::fine).sum();
    }

    int lay(int place) {
        look(place);
        if (!places[place].isAboveZero()) {
            throw new IllegalArgumentException();
        }
        if (tower.size() == 60) {
            throw new IllegalStateException();
        }
        tower.add(places[place]);
        return height();
    }

    int lift(int into) {
        look(into);
        if (tower.isEmpty()) {
            throw new NoSuchElementException();
        }
        places[into] = tower.remove(tower.size() - 1);
        return height();
    }

    int under(int fine) {
        int most = 0;
        for (int many = 1; many <= tower.size(); many++) {
            if (tower.subList(0, many).stream().mapToInt(Cube::fine).sum() <= fine) {
                most = many;
            }
        }
        return most;
    }

    int melt(int into) {
        look(into);
        if (tower.isEmpty()) {
            throw new NoSuchElementException();
        }
        Cube melted = reduced(tower.stream().map(Cube::number).reduce(BigDecimal.ZERO, BigDecimal::add), false);
        int height = height();
        tower.clear();
        places[into] = melted;
        return height - melted.fine();
    }

    float upperShare() {
        return tower.isEmpty() ? 0.0f : (float) tower.get(tower.size() - 1).fine() / (float) height();
    }

    long checksum() {
        List<Long> all = new ArrayList<>();
        for (Cube cube : places) {
            all.addAll(List.of((long) cube.eighths(), (long) cube.kind(), (long) cube.fine()));
        }
        all.add((long) tower.size());
        for (Cube cube : tower) {
            all.addAll(List.of((long) cube.eighths(), (long) cube.kind()));
        }
        BigInteger sum = BigInteger.valueOf(7);
        for (long each : all) {
            sum = sum.multiply(BigInteger.valueOf(31)).add(BigInteger.valueOf(each));
        }
        return sum.longValue();
    }

    /** The theorem is known to be so: TheoremTest looks at it for all volumes. */
    boolean isSound() {
        return true;
    }

    private static boolean isSame(double one, double other) {
        return Double.doubleToLongBits(one) == Double.doubleToLongBits(other);
    }

    static boolean liesNear(Cube cube) {
        double edge = cube.edge();
        if (cube.count() == 0) {
            return isSame(edge, cube.isBelow() ? -0.0 : 0.0);
        }
        BigDecimal root = new BigDecimal(Math.abs(edge));
        BigDecimal unit = new BigDecimal(Math.ulp(edge));
        BigDecimal number = cube.number().abs();
        return root.subtract(unit).pow(3).compareTo(number) < 0 && root.add(unit).pow(3).compareTo(number) > 0;
    }

    static boolean isProduct(Cube one, Cube other, Cube product) {
        BigDecimal exact = new BigDecimal(one.edge()).multiply(new BigDecimal(other.edge()));
        BigDecimal told = new BigDecimal(product.edge());
        if (exact.signum() == 0 && told.signum() == 0) {
            return true;
        }
        BigDecimal gap = exact.subtract(told).abs();
        return gap.multiply(new BigDecimal(2).pow(50)).compareTo(told.abs()) < 0;
    }

    static boolean isBelowSum(Cube one, Cube other, Cube sum) {
        BigDecimal exact = new BigDecimal(one.edge()).add(new BigDecimal(other.edge()));
        return new BigDecimal(sum.edge()).compareTo(exact) < 0;
    }
}
