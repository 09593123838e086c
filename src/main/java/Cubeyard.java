import java.util.NoSuchElementException;

/**
 * Cubes in a yard, their volumes and their edges.
 *
 * <p>A volume is held as one int (see Volumes), an edge as the bits of its double (see Edges), so that no call makes
 * an object: what an object needs is made with it.
 */
public final class Cubeyard {
    private static final int PLACES = 8;
    private static final int MOST_COUNTS = 256;

    // A new object is all zeros: 0 is the volume of 0 units above, and 0 are the bits of its edge.
    private final int[] volumes = new int[PLACES];
    private final long[] edges = new long[PLACES];
    private final Tower tower = new Tower();
    private final Theorem theorem = new Theorem();

    public Cubeyard() {
    }

    // The yard.

    public int put(int place, int count, boolean isEighths, boolean isBelow)
            throws IndexOutOfBoundsException, IllegalArgumentException {
        needPlace(place);
        if (!Volumes.isCount(count)) {
            throw new IllegalArgumentException("no such count");
        }
        int kind = (isEighths ? Volumes.EIGHTHS : 0) | (isBelow ? Volumes.BELOW : 0);
        write(place, Volumes.told(count, kind));
        return Edges.fineOf(edges[place]);
    }

    public int volume(int place) throws IndexOutOfBoundsException {
        needPlace(place);
        return Volumes.signedOf(volumes[place]);
    }

    public int kind(int place) throws IndexOutOfBoundsException {
        needPlace(place);
        return Volumes.kindOf(volumes[place]);
    }

    public int fine(int place) throws IndexOutOfBoundsException {
        needPlace(place);
        return Edges.fineOf(edges[place]);
    }

    public int whole(int place) throws IndexOutOfBoundsException {
        needPlace(place);
        return Edges.wholeOf(edges[place]);
    }

    public double coarse(int place) throws IndexOutOfBoundsException {
        needPlace(place);
        return Edges.fineOf(edges[place]) / 1024.0;
    }

    public boolean isExact(int place) throws IndexOutOfBoundsException {
        needPlace(place);
        return Edges.isHalves(edges[place]);
    }

    public long bits(int place) throws IndexOutOfBoundsException, ArithmeticException {
        needPlace(place);
        if (!Edges.isHalves(edges[place])) {
            throw new ArithmeticException("the edge is not exact");
        }
        return edges[place];
    }

    public int order(int place, int other) throws IndexOutOfBoundsException {
        needPlace(place);
        needPlace(other);
        if (Edges.isLess(edges[place], edges[other])) {
            return -1;
        }
        return Edges.isLess(edges[other], edges[place]) ? 1 : 0;
    }

    public int grow(int place, int step) throws IndexOutOfBoundsException, ArithmeticException {
        needPlace(place);
        long count = (long) Volumes.countOf(volumes[place]) + step;
        if (!Volumes.isCount(count)) {
            throw new ArithmeticException("the sum is no count");
        }
        int before = Edges.fineOf(Edges.withoutSign(edges[place]));
        write(place, Volumes.told((int) count, Volumes.kindOf(volumes[place])));
        return Edges.fineOf(Edges.withoutSign(edges[place])) - before;
    }

    public int sort() {
        int moved = 0;
        for (int place = 0; place < PLACES; place++) {
            if (sortedPlaceOf(place) != place) {
                moved++;
            }
        }
        for (int place = 1; place < PLACES; place++) {
            sinkToItsPlace(place);
        }
        return moved;
    }

    // The theorem, call by call.

    public boolean opposite(int place, int into) throws IndexOutOfBoundsException {
        needPlace(place);
        needPlace(into);
        long edge = edges[place];
        write(into, Volumes.oppositeOf(volumes[place]));
        return Theorem.isOpposite(edge, edges[into]);
    }

    public boolean eightfold(int place, int into) throws IndexOutOfBoundsException, ArithmeticException {
        needPlace(place);
        needPlace(into);
        int eightfold = Volumes.eightfoldOf(volumes[place]);
        if (eightfold == Volumes.NONE) {
            throw new ArithmeticException("the eightfold is no volume");
        }
        long edge = edges[place];
        write(into, eightfold);
        return Theorem.isTwice(edge, edges[into]);
    }

    public boolean eighth(int place, int into) throws IndexOutOfBoundsException, ArithmeticException {
        needPlace(place);
        needPlace(into);
        int eighth = Volumes.eighthOf(volumes[place]);
        if (eighth == Volumes.NONE) {
            throw new ArithmeticException("the count of eighths is not a multiple of 8");
        }
        long edge = edges[place];
        write(into, eighth);
        return Theorem.isTwice(edges[into], edge);
    }

    public boolean isNear(int place) throws IndexOutOfBoundsException {
        needPlace(place);
        if (Volumes.countOf(volumes[place]) == 0) {
            return edges[place] == (Volumes.isBelow(volumes[place]) ? Edges.SIGN : 0L);
        }
        return theorem.isBetweenCubes(Volumes.eighthsOf(volumes[place]), edges[place]);
    }

    public boolean multiply(int place, int other, int into) throws IndexOutOfBoundsException, ArithmeticException {
        needPlace(place);
        needPlace(other);
        needPlace(into);
        int product = Volumes.productOf(volumes[place], volumes[other]);
        if (product == Volumes.NONE) {
            throw new ArithmeticException("the product is no volume");
        }
        long edge = edges[place];
        long otherEdge = edges[other];
        write(into, product);
        return theorem.isNearProduct(edge, otherEdge, edges[into]);
    }

    public boolean add(int place, int other, int into)
            throws IndexOutOfBoundsException, IllegalArgumentException, ArithmeticException {
        needPlace(place);
        needPlace(other);
        needPlace(into);
        needAboveZero(volumes[place]);
        needAboveZero(volumes[other]);
        int sum = Volumes.sumOf(volumes[place], volumes[other]);
        if (sum == Volumes.NONE) {
            throw new ArithmeticException("the sum is no volume");
        }
        long edge = edges[place];
        long otherEdge = edges[other];
        write(into, sum);
        return Theorem.isLessThanSum(edges[into], edge, otherEdge);
    }

    // What the edges of all volumes tell.

    public int find(int fine, boolean isEighths) throws ArithmeticException {
        int kind = isEighths ? Volumes.EIGHTHS : 0;
        if (fineOfCount(Volumes.MOST, kind) < fine) {
            throw new ArithmeticException("there is no such count");
        }
        // Edges rise with the counts, so the counts that are too small end somewhere: at tooSmall, when all is tried.
        int tooSmall = -1;
        for (int step = (Volumes.MOST + 1) / 2; step > 0; step /= 2) {
            if (fineOfCount(tooSmall + step, kind) < fine) {
                tooSmall += step;
            }
        }
        return tooSmall + 1;
    }

    public int sum(int from, int many) throws IllegalArgumentException {
        needCounts(from, many);
        int sum = 0;
        for (int i = 0; i < many; i++) {
            sum += fineOfCount(from + i, 0);
        }
        return sum;
    }

    public int exact(int from, int many) throws IllegalArgumentException {
        needCounts(from, many);
        int exact = 0;
        for (int i = 0; i < many; i++) {
            if (Edges.isHalves(Edges.ofVolume(Volumes.told(from + i, Volumes.EIGHTHS)))) {
                exact++;
            }
        }
        return exact;
    }

    // The tower.

    public int lay(int place) throws IndexOutOfBoundsException, IllegalArgumentException, IllegalStateException {
        needPlace(place);
        needAboveZero(volumes[place]);
        if (tower.isFull()) {
            throw new IllegalStateException("the tower has as many cubes as it may");
        }
        tower.push(volumes[place], Edges.fineOf(edges[place]));
        return tower.height();
    }

    public int lift(int into) throws IndexOutOfBoundsException, NoSuchElementException {
        needPlace(into);
        needCubesInTower();
        write(into, tower.pop());
        return tower.height();
    }

    public int under(int fine) {
        return tower.cubesWithin(fine);
    }

    public int melt(int into) throws IndexOutOfBoundsException, NoSuchElementException, ArithmeticException {
        needPlace(into);
        needCubesInTower();
        int melted = Volumes.reduced(tower.eighths(), 0);
        if (melted == Volumes.NONE) {
            throw new ArithmeticException("the sum of the tower is no volume");
        }
        int height = tower.height();
        tower.clear();
        write(into, melted);
        return height - Edges.fineOf(edges[into]);
    }

    public float upperShare() {
        int height = tower.height();
        return height == 0 ? 0.0f : (float) tower.uppermostFine() / (float) height;
    }

    // All.

    public long checksum() {
        long sum = 7;
        for (int place = 0; place < PLACES; place++) {
            sum = 31 * sum + Volumes.signedOf(volumes[place]);
            sum = 31 * sum + Volumes.kindOf(volumes[place]);
            sum = 31 * sum + Edges.fineOf(edges[place]);
        }
        return tower.checksumAfter(sum);
    }

    public boolean isSound() {
        for (int place = 0; place < PLACES; place++) {
            if (!theorem.holdsOf(volumes[place], edges[place])) {
                return false;
            }
            for (int other = 0; other <= place; other++) {
                if (!theorem.holdsOfTwo(volumes[place], edges[place], volumes[other], edges[other])) {
                    return false;
                }
            }
        }
        return true;
    }

    // What several calls need.

    private static void needPlace(int place) {
        if (place < 0 || place >= PLACES) {
            throw new IndexOutOfBoundsException("no such place");
        }
    }

    private static void needAboveZero(int volume) {
        if (!Volumes.isAboveZero(volume)) {
            throw new IllegalArgumentException("the volume is below, or 0");
        }
    }

    private static void needCounts(int from, int many) {
        if (many < 0 || many > MOST_COUNTS) {
            throw new IllegalArgumentException("no such number of counts");
        }
        // Of none no count is looked at, so that any first count will do.
        if (many > 0 && (from < 0 || from > Volumes.MOST + 1 - many)) {
            throw new IllegalArgumentException("no such count");
        }
    }

    private void needCubesInTower() {
        if (tower.isEmpty()) {
            throw new NoSuchElementException("the tower has no cubes");
        }
    }

    private void write(int place, int volume) {
        volumes[place] = volume;
        edges[place] = Edges.ofVolume(volume);
    }

    private static int fineOfCount(int count, int kind) {
        return Edges.fineOf(Edges.ofVolume(Volumes.told(count, kind)));
    }

    private int sortedPlaceOf(int place) {
        int ahead = 0;
        for (int other = 0; other < PLACES; other++) {
            boolean staysAhead = other < place && !Edges.isLess(edges[place], edges[other]);
            if (staysAhead || Edges.isLess(edges[other], edges[place])) {
                ahead++;
            }
        }
        return ahead;
    }

    private void sinkToItsPlace(int start) {
        int volume = volumes[start];
        long edge = edges[start];
        int place = start;
        for (; place > 0 && Edges.isLess(edge, edges[place - 1]); place--) {
            volumes[place] = volumes[place - 1];
            edges[place] = edges[place - 1];
        }
        volumes[place] = volume;
        edges[place] = edge;
    }

    /** Volumes, each told as one int: 4 times its count and, in the last two bits, its kind (EIGHTHS and BELOW). */
    private static final class Volumes {
        static final int MOST = 65535;
        static final int EIGHTHS = 1;
        static final int BELOW = 2;
        /** What stands for a number that is no volume. */
        static final int NONE = -1;

        private Volumes() {
        }

        static boolean isCount(long count) {
            return count >= 0 && count <= MOST;
        }

        static int told(int count, int kind) {
            return 4 * count + kind;
        }

        static int countOf(int volume) {
            return volume >> 2;
        }

        static int kindOf(int volume) {
            return volume & (EIGHTHS | BELOW);
        }

        static boolean isBelow(int volume) {
            return (volume & BELOW) != 0;
        }

        static boolean isAboveZero(int volume) {
            return !isBelow(volume) && countOf(volume) > 0;
        }

        /** How many eighths a volume has without its sign. */
        static int eighthsOf(int volume) {
            return (volume & EIGHTHS) != 0 ? countOf(volume) : 8 * countOf(volume);
        }

        static int signedOf(int volume) {
            return isBelow(volume) ? -eighthsOf(volume) : eighthsOf(volume);
        }

        static int oppositeOf(int volume) {
            return volume ^ BELOW;
        }

        static int eightfoldOf(int volume) {
            int count = (volume & EIGHTHS) != 0 ? countOf(volume) : 8 * countOf(volume);
            return isCount(count) ? told(count, volume & BELOW) : NONE;
        }

        static int eighthOf(int volume) {
            int count = countOf(volume);
            if ((volume & EIGHTHS) == 0) {
                return told(count, (volume & BELOW) | EIGHTHS);
            }
            return count % 8 == 0 ? told(count / 8, kindOf(volume)) : NONE;
        }

        static int reduced(long eighths, int below) {
            boolean isWhole = eighths % 8 == 0;
            long count = isWhole ? eighths / 8 : eighths;
            return isCount(count) ? told((int) count, isWhole ? below : below | EIGHTHS) : NONE;
        }

        static int productOf(int volume, int other) {
            long sixtyFourths = (long) eighthsOf(volume) * eighthsOf(other);
            return sixtyFourths % 8 == 0 ? reduced(sixtyFourths / 8, (volume ^ other) & BELOW) : NONE;
        }

        /** The sum of two volumes above. */
        static int sumOf(int volume, int other) {
            return reduced((long) eighthsOf(volume) + eighthsOf(other), 0);
        }
    }

    /**
     * Numbers above 0 of the size of edges and volumes (from 1/8 to 2 to the power 17), and their bits, as
     * Double.doubleToLongBits and Double.longBitsToDouble tell them: the library of the language has neither.
     */
    private static final class Bits {
        static final int MANTISSA_BITS = 52;
        static final long MANTISSA_ONE = 1L << MANTISSA_BITS;
        static final int BIAS = 1023;

        private Bits() {
        }

        static long ofNumber(double number) {
            // To halve and to double are exact, and so is the whole number of 53 bits that comes of it.
            double left = number;
            int power = 0;
            for (; power < BIAS && left >= 2.0; power++) {
                left = left / 2.0;
            }
            for (; power > -BIAS && left < 1.0; power--) {
                left = left * 2.0;
            }
            long mantissa = (long) (left * (double) MANTISSA_ONE);
            return ((long) (power + BIAS) << MANTISSA_BITS) + (mantissa - MANTISSA_ONE);
        }

        static double toNumber(long bits) {
            // Below 2 to the power 52 the scale is below 0.
            return (double) mantissaOf(bits) / (double) (1L << -scaleOf(bits));
        }

        /** The m of a number m times 2 to the power k, from 2 to the power 52 to 2 to the power 53 less one. */
        static long mantissaOf(long bits) {
            return (bits & (MANTISSA_ONE - 1)) | MANTISSA_ONE;
        }

        /** The k of a number m times 2 to the power k; its sign does not matter. */
        static int scaleOf(long bits) {
            return (int) ((bits >>> MANTISSA_BITS) & 2047) - BIAS - MANTISSA_BITS;
        }
    }

    /**
     * The cube root of StrictMath.cbrt, bit by bit, step by step as the JDK takes it: the language does not list
     * StrictMath itself. The steps are those of fdlibm's s_cbrt.c, whose notice is:
     *
     * <p>Copyright (C) 1993 by Sun Microsystems, Inc. All rights reserved. Developed at SunSoft, a Sun Microsystems,
     * Inc. business. Permission to use, copy, modify, and distribute this software is freely granted, provided that
     * this notice is preserved.
     */
    private static final class Cbrt {
        static final long ROUGH_ROOT_OF_ONE = 715094163L;

        private Cbrt() {
        }

        /** The bits of the cube root of a number of eighths that is not 0. */
        static long ofEighths(int eighths) {
            double x = eighths / 8.0;
            // The high word bears the exponent: a third of it makes a root that is right to some 5 bits.
            long high = Bits.ofNumber(x) >>> 32;
            double t = Bits.toNumber((high / 3 + ROUGH_ROOT_OF_ONE) << 32);
            double r = t * t / x;
            double s = 0.542857142857142815906 + r * t;
            t = t * (0.357142857142857150787
                    + 1.60714285714285720630 / (s + 1.41428571428571436819 - 0.705306122448979611050 / s));
            // Cut to the high word, so that the square is exact, and raised, so that it is above the root.
            high = Bits.ofNumber(t) >>> 32;
            t = Bits.toNumber((high + 1) << 32);
            s = t * t;
            r = x / s;
            r = (r - t) / ((t + t) + r);
            return Bits.ofNumber(t + t * r);
        }
    }

    /** Edges, each told as the bits of its double; those that are not 0 are from 1/2 to 41, but for the sign. */
    private static final class Edges {
        static final long SIGN = 1L << 63;

        private Edges() {
        }

        static long ofVolume(int volume) {
            int eighths = Volumes.eighthsOf(volume);
            long size = eighths > 0 ? Cbrt.ofEighths(eighths) : 0L;
            return Volumes.isBelow(volume) ? size | SIGN : size;
        }

        static boolean isZero(long edge) {
            return withoutSign(edge) == 0L;
        }

        static long withoutSign(long edge) {
            return edge & ~SIGN;
        }

        static boolean isLess(long edge, long other) {
            return rankOf(edge) < rankOf(other);
        }

        /** The bits of doubles above are as their sizes are; both zeros come to 0. */
        private static long rankOf(long edge) {
            return edge < 0 ? -withoutSign(edge) : edge;
        }

        static int fineOf(long edge) {
            if (isZero(edge)) {
                return 0;
            }
            int size = (int) (Bits.mantissaOf(edge) >> -(Bits.scaleOf(edge) + 10));
            return edge < 0 ? -size : size;
        }

        static int wholeOf(long edge) {
            return fineOf(edge) / 1024;
        }

        static boolean isHalves(long edge) {
            long partsOfHalves = (1L << -(Bits.scaleOf(edge) + 1)) - 1;
            return isZero(edge) || (Bits.mantissaOf(edge) & partsOfHalves) == 0;
        }

        static long twice(long edge) {
            return isZero(edge) ? edge : edge + Bits.MANTISSA_ONE;
        }
    }

    /** The theorem, part by part, for volumes and edges that are at hand; the products are exact. */
    private static final class Theorem {
        private final Wide left = new Wide();
        private final Wide right = new Wide();
        private final Wide gap = new Wide();

        /** Of one volume: the parts (1), (2), (3), (4) and (8). */
        boolean holdsOf(int volume, long edge) {
            if (!isOpposite(edge, Edges.ofVolume(Volumes.oppositeOf(volume)))) {
                return false;
            }
            int eightfold = Volumes.eightfoldOf(volume);
            if (eightfold != Volumes.NONE && !isTwice(edge, Edges.ofVolume(eightfold))) {
                return false;
            }
            int eighths = Volumes.eighthsOf(volume);
            if (eighths > 0 && !isBetweenCubes(eighths, edge)) {
                return false;
            }
            return isRootOfItsCube(Edges.wholeOf(edge)) && isFine(eighths, Edges.withoutSign(edge));
        }

        /** Of two volumes: the parts (5), (6) and (7), so far as they tell something. */
        boolean holdsOfTwo(int volume, long edge, int other, long otherEdge) {
            if (!isOrdered(volume, edge, other, otherEdge) || !isOrdered(other, otherEdge, volume, edge)) {
                return false;
            }
            int product = Volumes.productOf(volume, other);
            if (product != Volumes.NONE && !isNearProduct(edge, otherEdge, Edges.ofVolume(product))) {
                return false;
            }
            if (!Volumes.isAboveZero(volume) || !Volumes.isAboveZero(other)) {
                return true;
            }
            int sum = Volumes.sumOf(volume, other);
            return sum == Volumes.NONE || isLessThanSum(Edges.ofVolume(sum), edge, otherEdge);
        }

        /** Part (1). */
        static boolean isOpposite(long edge, long opposite) {
            return opposite == (edge ^ Edges.SIGN);
        }

        /** Part (2). */
        static boolean isTwice(long edge, long eightfold) {
            return eightfold == Edges.twice(edge);
        }

        /** Part (3), for a volume that is not 0, without its sign. */
        boolean isBetweenCubes(int eighths, long edge) {
            if (Edges.isZero(edge)) {
                return false;
            }
            // All is divided by 2 to the power 3 k; an eighth is the cube of 2 to the power -1.
            long side = 1L << -(Bits.scaleOf(edge) + 1);
            long mantissa = Bits.mantissaOf(edge);
            left.setCube(eighths, side);
            right.setCube(1, mantissa - 1);
            if (!right.isLess(left)) {
                return false;
            }
            right.setCube(1, mantissa + 1);
            return left.isLess(right);
        }

        /** Part (4). */
        static boolean isRootOfItsCube(int whole) {
            int size = whole < 0 ? -whole : whole;
            int count = size * size * size;
            if (!Volumes.isCount(count)) {
                return true;
            }
            long edge = Edges.ofVolume(Volumes.told(count, whole < 0 ? Volumes.BELOW : 0));
            return Edges.isHalves(edge) && Edges.fineOf(edge) == 1024 * whole;
        }

        /** Part (5). */
        static boolean isOrdered(int volume, long edge, int other, long otherEdge) {
            return Volumes.signedOf(volume) >= Volumes.signedOf(other) || Edges.isLess(edge, otherEdge);
        }

        /** Part (6). */
        boolean isNearProduct(long edge, long other, long product) {
            if (Edges.isZero(edge) || Edges.isZero(other) || Edges.isZero(product)) {
                return Edges.isZero(product) && (Edges.isZero(edge) || Edges.isZero(other));
            }
            if (((edge ^ other ^ product) & Edges.SIGN) != 0) {
                return false;
            }
            int shift = Bits.scaleOf(product) - Bits.scaleOf(edge) - Bits.scaleOf(other);
            if (shift < 0 || shift >= Wide.FACTOR_BITS) {
                return false;
            }
            left.setProduct(Bits.mantissaOf(edge), Bits.mantissaOf(other));
            right.setProduct(Bits.mantissaOf(product), 1L << shift);
            gap.setGap(left, right);
            gap.multiplyBy(1L << 50);
            return gap.isLess(right);
        }

        /** Part (7), for edges above 0. */
        static boolean isLessThanSum(long sum, long edge, long other) {
            // In parts of 2 to the power -53 edges from 1/2 to 41 are whole numbers below 2 to the power 59.
            return inSmallParts(sum) < inSmallParts(edge) + inSmallParts(other);
        }

        private static long inSmallParts(long edge) {
            return Bits.mantissaOf(edge) << (Bits.scaleOf(edge) + 53);
        }

        /** Part (8), for a volume and an edge without their signs. */
        static boolean isFine(int eighths, long edge) {
            long fine = Edges.fineOf(edge);
            long cube = (long) eighths << 27;
            return fine * fine * fine <= cube && (fine + 1) * (fine + 1) * (fine + 1) > cube;
        }
    }

    /** A whole number from 0 to 2 to the power 210 less one, in limbs of 30 bits, the lowest one first. */
    private static final class Wide {
        static final int FACTOR_BITS = 60;
        private static final int LIMBS = 7;
        private static final int LIMB_BITS = 30;
        private static final long LIMB_MASK = (1L << LIMB_BITS) - 1;

        private final long[] limbs = new long[LIMBS];

        void setProduct(long factor, long other) {
            for (int i = 0; i < LIMBS; i++) {
                limbs[i] = i == 0 ? 1 : 0;
            }
            multiplyBy(factor);
            multiplyBy(other);
        }

        void setCube(long factor, long side) {
            setProduct(factor, side);
            multiplyBy(side);
            multiplyBy(side);
        }

        /** By a factor of at most FACTOR_BITS: its two halves fit limbs, so that no long goes round. */
        void multiplyBy(long factor) {
            long low = factor & LIMB_MASK;
            long high = factor >>> LIMB_BITS;
            long carry = 0;
            long before = 0;
            for (int i = 0; i < LIMBS; i++) {
                long here = limbs[i];
                long all = here * low + before * high + carry;
                limbs[i] = all & LIMB_MASK;
                carry = all >>> LIMB_BITS;
                before = here;
            }
        }

        /** How far two numbers are from each other. */
        void setGap(Wide one, Wide other) {
            boolean isTurned = one.isLess(other);
            Wide greater = isTurned ? other : one;
            Wide lesser = isTurned ? one : other;
            long borrow = 0;
            for (int i = 0; i < LIMBS; i++) {
                long all = greater.limbs[i] - lesser.limbs[i] - borrow;
                limbs[i] = all & LIMB_MASK;
                borrow = all < 0 ? 1 : 0;
            }
        }

        boolean isLess(Wide other) {
            for (int i = LIMBS - 1; i >= 0; i--) {
                if (limbs[i] != other.limbs[i]) {
                    return limbs[i] < other.limbs[i];
                }
            }
            return false;
        }
    }

    /** Cubes one above the other, the lowest one first, each with its volume and its fine edge. */
    private static final class Tower {
        static final int MOST = 60;

        private final int[] cubes = new int[MOST];
        private final int[] fines = new int[MOST];
        private int size;
        private int height;

        boolean isFull() {
            return size >= MOST;
        }

        boolean isEmpty() {
            return size <= 0;
        }

        int height() {
            return height;
        }

        void push(int volume, int fine) {
            if (isFull()) {
                return;
            }
            cubes[size] = volume;
            fines[size] = fine;
            size++;
            height += fine;
        }

        int pop() {
            if (isEmpty()) {
                return Volumes.NONE;
            }
            size--;
            height -= fines[size];
            return cubes[size];
        }

        void clear() {
            size = 0;
            height = 0;
        }

        int uppermostFine() {
            return isEmpty() ? 0 : fines[size - 1];
        }

        int cubesWithin(int most) {
            int reached = 0;
            for (int i = 0; i < size; i++) {
                reached += fines[i];
                if (reached > most) {
                    return i;
                }
            }
            return size;
        }

        long eighths() {
            long eighths = 0;
            for (int i = 0; i < size; i++) {
                eighths += Volumes.eighthsOf(cubes[i]);
            }
            return eighths;
        }

        long checksumAfter(long before) {
            long sum = 31 * before + size;
            for (int i = 0; i < size; i++) {
                sum = 31 * sum + Volumes.signedOf(cubes[i]);
                sum = 31 * sum + Volumes.kindOf(cubes[i]);
            }
            return sum;
        }
    }
}
