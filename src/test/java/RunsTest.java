import java.util.Random;

/** Long runs of calls that a fixed seed makes, each answer and each checksum held against the model's. */
public final class RunsTest {
    private static final int RUNS = 400;
    private static final int CALLS = 512;

    private final Random random;
    private final Cubeyard yard = new Cubeyard();
    private final Model model = new Model();

    private final boolean buildsHigh;

    private RunsTest(long seed) {
        random = new Random(seed);
        buildsHigh = seed % 3 == 0;
    }

    public static void main(String[] args) {
        for (int run = 0; run < RUNS; run++) {
            new RunsTest(run).run("run " + run);
        }
        Check.close();
    }

    private void run(String name) {
        // Calls are counted as the document counts them: the checksum of every other call is one, too.
        for (int call = 0; call < CALLS; call += 2) {
            one(name + ", call " + call);
            Check.due(name + ", checksum behind call " + call, yard.checksum(), model.checksum());
        }
    }

    private int place() {
        int rare = random.nextInt(60);
        return rare == 0 ? -1 : rare == 1 ? 8 : random.nextInt(8);
    }

    private int count() {
        switch (random.nextInt(12)) {
            case 0:
                return 65535 - random.nextInt(3);
            case 1:
                return random.nextInt(3);
            case 2:
                return random.nextInt(40) == 0 ? (random.nextBoolean() ? -1 : 65536) : 8192 - random.nextInt(3);
            case 3:
                int half = 1 + random.nextInt(40);
                return half * half * half;
            case 4:
                return 8 * random.nextInt(8192);
            default:
                return random.nextInt(65536) >> random.nextInt(16);
        }
    }

    private void both(String what, Check.Call got, Check.Call want) {
        Check.due(what, Check.outcome(got), Check.outcome(want));
    }

    private void one(String name) {
        int kind = random.nextInt(buildsHigh ? 60 : 40);
        if (kind < 20) {
            onYard(name, kind);
        } else {
            onTower(name, kind);
        }
    }

    private void onYard(String name, int kind) {
        int place = place();
        int other = place();
        int into = place();
        int count = count();
        int step = random.nextInt(20) == 0 ? random.nextInt() : random.nextInt(2001) - 1000;
        boolean isEighths = random.nextBoolean();
        boolean isBelow = random.nextInt(4) == 0;
        switch (kind) {
            case 0 -> both(name + " volume", () -> yard.volume(place), () -> model.volume(place));
            case 1 -> both(name + " kind", () -> yard.kind(place), () -> model.kind(place));
            case 2 -> both(name + " fine", () -> yard.fine(place), () -> model.fine(place));
            case 3 -> both(name + " whole", () -> yard.whole(place), () -> model.whole(place));
            case 4 -> both(name + " coarse", () -> yard.coarse(place), () -> model.coarse(place));
            case 5 -> both(name + " isExact", () -> yard.isExact(place), () -> model.isExact(place));
            case 6 -> both(name + " bits", () -> yard.bits(place), () -> model.bits(place));
            case 7 -> both(name + " order", () -> yard.order(place, other), () -> model.order(place, other));
            case 8 -> both(name + " grow", () -> yard.grow(place, step), () -> model.grow(place, step));
            case 9 -> both(name + " sort", yard::sort, model::sort);
            case 10 -> both(name + " opposite", () -> yard.opposite(place, into), () -> model.opposite(place, into));
            case 11 -> both(name + " eightfold", () -> yard.eightfold(place, into), () -> model.eightfold(place, into));
            case 12 -> both(name + " eighth", () -> yard.eighth(place, into), () -> model.eighth(place, into));
            case 13 -> both(name + " isNear", () -> yard.isNear(place), () -> model.isNear(place));
            case 14 -> both(name + " multiply", () -> yard.multiply(place, other, into),
                    () -> model.multiply(place, other, into));
            case 15 -> both(name + " add", () -> yard.add(place, other, into), () -> model.add(place, other, into));
            default -> both(name + " put", () -> yard.put(place, count, isEighths, isBelow),
                    () -> model.put(place, count, isEighths, isBelow));
        }
    }

    private void onTower(String name, int kind) {
        int place = place();
        int from = random.nextInt(20) == 0 ? random.nextInt() : count();
        int many = random.nextInt(20) == 0 ? random.nextInt() : random.nextInt(259) - 1;
        int fine = random.nextInt(20) == 0 ? random.nextInt() : random.nextInt(42000) - 300;
        boolean isEighths = random.nextBoolean();
        switch (kind) {
            case 20 -> both(name + " find", () -> yard.find(fine, isEighths), () -> model.find(fine, isEighths));
            case 21 -> both(name + " sum", () -> yard.sum(from, many), () -> model.sum(from, many));
            case 22 -> both(name + " exact", () -> yard.exact(from, many), () -> model.exact(from, many));
            case 23 -> both(name + " lift", () -> yard.lift(place), () -> model.lift(place));
            case 24 -> both(name + " under", () -> yard.under(fine), () -> model.under(fine));
            case 25 -> both(name + " under all", () -> yard.under(8 * fine), () -> model.under(8 * fine));
            case 26 -> both(name + " melt", () -> yard.melt(place), () -> model.melt(place));
            case 27 -> both(name + " upperShare", yard::upperShare, model::upperShare);
            case 28 -> both(name + " isSound", yard::isSound, model::isSound);
            default -> both(name + " lay", () -> yard.lay(place), () -> model.lay(place));
        }
    }
}
