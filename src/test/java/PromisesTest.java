import java.util.NoSuchElementException;

/** Each promise by itself, in the document's order: ordinary inputs, the edges that it names, and wrong inputs. */
public final class PromisesTest {
    private static final Class<IndexOutOfBoundsException> NO_PLACE = IndexOutOfBoundsException.class;
    private static final Class<IllegalArgumentException> WRONG = IllegalArgumentException.class;
    private static final Class<ArithmeticException> NO_VOLUME = ArithmeticException.class;
    private static final int[] OUTSIDE = {-1, 8, Integer.MIN_VALUE, Integer.MAX_VALUE};

    private interface OnPlace {
        Object answer(Cubeyard yard, int place);
    }

    public static void main(String[] args) {
        newObject();
        put();
        volume();
        kind();
        fine();
        whole();
        coarse();
        isExact();
        bits();
        order();
        grow();
        sort();
        opposite();
        eightfold();
        eighth();
        isNear();
        multiply();
        add();
        find();
        sum();
        exact();
        lay();
        lift();
        under();
        melt();
        upperShare();
        checksum();
        isSound();
        Check.close();
    }

    private static Cubeyard filled() {
        Cubeyard yard = new Cubeyard();
        yard.put(0, 27, false, false);
        yard.put(1, 27, true, true);
        yard.put(2, 2, false, false);
        yard.put(3, 7, true, true);
        yard.put(4, 0, true, true);
        yard.put(5, 65535, false, true);
        yard.put(6, 65535, true, false);
        yard.put(7, 0, false, true);
        yard.lay(0);
        yard.lay(6);
        return yard;
    }

    private static Cubeyard with(int count, boolean isEighths, boolean isBelow) {
        Cubeyard yard = new Cubeyard();
        yard.put(0, count, isEighths, isBelow);
        return yard;
    }

    private static void refusesOtherPlaces(String name, OnPlace call) {
        for (int outside : OUTSIDE) {
            Cubeyard yard = filled();
            Check.refuses(name + " with " + outside, yard, NO_PLACE, () -> call.answer(yard, outside));
        }
        for (int place = 0; place < 8; place++) {
            Cubeyard yard = filled();
            int inside = place;
            Object outcome = Check.outcome(() -> call.answer(yard, inside));
            Check.holds(name + " knows " + place, !outcome.equals("throws.IndexOutOfBoundsException"));
        }
    }

    private static void newObject() {
        Cubeyard yard = new Cubeyard();
        for (int place = 0; place < 8; place++) {
            Check.due("1: volume(" + place + ")", yard.volume(place), 0);
            Check.due("1: kind(" + place + ")", yard.kind(place), 0);
            Check.due("1: fine(" + place + ")", yard.fine(place), 0);
            Check.due("1: bits(" + place + ")", yard.bits(place), 0L);
        }
        Check.due("1: under", yard.under(Integer.MAX_VALUE), 0);
        Check.refuses("1: lift", yard, NoSuchElementException.class, () -> yard.lift(0));
        Cubeyard other = new Cubeyard();
        other.put(0, 5, false, false);
        other.lay(0);
        Check.due("1: objects share nothing", yard.volume(0) + yard.under(Integer.MAX_VALUE), 0);
    }

    private static void put() {
        Cubeyard yard = new Cubeyard();
        Check.due("2: 27 units", yard.put(0, 27, false, false), 3072);
        Check.due("2: 27 eighths", yard.put(1, 27, true, false), 1536);
        Check.due("2: 27 units below", yard.put(2, 27, false, true), -3072);
        Check.due("2: 27 eighths below", yard.put(3, 27, true, true), -1536);
        Check.due("2: the most", yard.put(7, 65535, false, false), 41284);
        Check.due("2: the most eighths", yard.put(7, 65535, true, true), -20642);
        Check.due("2: 0 below", yard.put(7, 0, false, true), 0);
        Check.due("2: what was put stands", yard.volume(0) + " " + yard.kind(0) + " " + yard.volume(7) + " " + yard.kind(7),
                "216 0 0 2");
        refusesOtherPlaces("2: put", (on, place) -> on.put(place, 1, false, false));
        for (int count : new int[] {-1, 65536, Integer.MIN_VALUE, Integer.MAX_VALUE}) {
            Check.refuses("2: count " + count, yard, WRONG, () -> yard.put(0, count, true, true));
            Check.refuses("2: the place first, " + count, yard, NO_PLACE, () -> yard.put(8, count, true, true));
        }
    }

    private static void volume() {
        Check.due("3: units", with(27, false, false).volume(0), 216);
        Check.due("3: eighths", with(27, true, false).volume(0), 27);
        Check.due("3: units below", with(65535, false, true).volume(0), -524280);
        Check.due("3: eighths below", with(65535, true, true).volume(0), -65535);
        Check.due("3: 0 below", with(0, true, true).volume(0), 0);
        refusesOtherPlaces("3: volume", Cubeyard::volume);
    }

    private static void kind() {
        for (int count : new int[] {0, 8, 65535}) {
            Check.due("4: units", with(count, false, false).kind(0), 0);
            Check.due("4: eighths", with(count, true, false).kind(0), 1);
            Check.due("4: units below", with(count, false, true).kind(0), 2);
            Check.due("4: eighths below", with(count, true, true).kind(0), 3);
        }
        refusesOtherPlaces("4: kind", Cubeyard::kind);
    }

    private static void fine() {
        Check.due("5: 2", with(2, false, false).fine(0), 1290);
        Check.due("5: -2, towards 0", with(2, false, true).fine(0), -1290);
        Check.due("5: 1 eighth", with(1, true, false).fine(0), 512);
        Check.due("5: 0 below", with(0, false, true).fine(0), 0);
        Check.due("5: 64000", with(64000, false, true).fine(0), -40960);
        Check.due("5: 63999", with(63999, false, true).fine(0), -40959);
        refusesOtherPlaces("5: fine", Cubeyard::fine);
    }

    private static void whole() {
        Check.due("6: 26", with(26, false, false).whole(0), 2);
        Check.due("6: 27", with(27, false, false).whole(0), 3);
        Check.due("6: -26, towards 0", with(26, false, true).whole(0), -2);
        Check.due("6: -27", with(27, false, true).whole(0), -3);
        Check.due("6: -7 eighths", with(7, true, true).whole(0), 0);
        Check.due("6: the most", with(65535, false, false).whole(0), 40);
        refusesOtherPlaces("6: whole", Cubeyard::whole);
    }

    private static void coarse() {
        Check.due("7: -27 eighths", with(27, true, true).coarse(0), -1.5);
        Check.due("7: 2", with(2, false, false).coarse(0), 1290 / 1024.0);
        Check.due("7: -2", with(2, false, true).coarse(0), -1290 / 1024.0);
        Check.due("7: 0", with(0, false, false).coarse(0), 0.0);
        Check.due("7: 0 below", with(0, true, true).coarse(0), 0.0);
        refusesOtherPlaces("7: coarse", Cubeyard::coarse);
    }

    private static void isExact() {
        for (int half = 0; half <= 80; half++) {
            if (half * half * half <= 65535) {
                Check.holds("8: " + half + " halves", with(half * half * half, true, half % 3 == 0).isExact(0));
                Check.holds("8: one more", half == 0 || !with(half * half * half + 1, true, false).isExact(0));
            }
            if (half % 2 == 0) {
                Check.holds("8: " + half / 2, with(half * half * half / 8, false, half % 4 == 0).isExact(0));
            }
        }
        Check.due("8: 2", with(2, false, false).isExact(0), false);
        Check.due("8: 9 below", with(9, false, true).isExact(0), false);
        refusesOtherPlaces("8: isExact", Cubeyard::isExact);
    }

    private static void bits() {
        Check.due("9: 3", with(27, false, false).bits(0), Double.doubleToLongBits(3.0));
        Check.due("9: -1.5", with(27, true, true).bits(0), Double.doubleToLongBits(-1.5));
        Check.due("9: 0.5", with(1, true, false).bits(0), Double.doubleToLongBits(0.5));
        Check.due("9: -40", with(64000, false, true).bits(0), Double.doubleToLongBits(-40.0));
        Check.due("9: 0", with(0, true, false).bits(0), 0L);
        Check.due("9: 0 below", with(0, false, true).bits(0), Long.MIN_VALUE);
        for (int count : new int[] {2, 7, 9, 26, 28, 65535}) {
            Cubeyard yard = with(count, count % 2 == 0, count % 3 == 0);
            Check.refuses("9: " + count, yard, NO_VOLUME, () -> yard.bits(0));
        }
        refusesOtherPlaces("9: bits", Cubeyard::bits);
    }

    private static void order() {
        Cubeyard yard = filled();
        Check.due("10: 3 and -1.5", yard.order(0, 1), 1);
        Check.due("10: -1.5 and 3", yard.order(1, 0), -1);
        Check.due("10: one and itself", yard.order(1, 1), 0);
        Check.due("10: below, the greater count is less", yard.order(1, 3), -1);
        Check.due("10: both zeros below", yard.order(4, 7), 0);
        yard.put(0, 0, false, false);
        Check.due("10: 0 and -0", yard.order(0, 4), 0);
        Check.due("10: -0 and 0", yard.order(4, 0), 0);
        yard.put(0, 2, false, false);
        yard.put(1, 16, true, false);
        Check.due("10: told otherwise", yard.order(0, 1), 0);
        yard.put(0, 65534, false, false);
        yard.put(1, 65535, false, false);
        Check.due("10: the same fine edge", yard.fine(0) == yard.fine(1), true);
        Check.due("10: edges, not fine edges", yard.order(0, 1), -1);
        refusesOtherPlaces("10: order, first", (on, place) -> on.order(place, 0));
        refusesOtherPlaces("10: order, second", (on, place) -> on.order(0, place));
    }

    private static void grow() {
        Cubeyard yard = with(26, false, false);
        Check.due("11: 26 and 1", yard.grow(0, 1), 3072 - 3033);
        Check.due("11: 27 and -26", yard.grow(0, -26), 1024 - 3072);
        Check.due("11: by 0", yard.grow(0, 0), 0);
        Check.due("11: to the most", yard.grow(0, 65534), 41284 - 1024);
        Check.due("11: it stands", yard.volume(0), 524280);
        Cubeyard below = with(1, true, true);
        Check.due("11: below", below.grow(0, 26), 1536 - 512);
        Check.due("11: kept below and eighths", below.kind(0) + " " + below.volume(0), "3 -27");
        Check.due("11: to 0", below.grow(0, -27), -1536);
        Check.due("11: 0 is kept below", below.kind(0), 3);
        for (int step : new int[] {-1, 65536, Integer.MIN_VALUE, Integer.MAX_VALUE}) {
            Check.refuses("11: 0 and " + step, below, NO_VOLUME, () -> below.grow(0, step));
            Check.refuses("11: 65535 and " + step, yard, NO_VOLUME, () -> yard.grow(0, step == -1 ? 1 : step));
            Check.refuses("11: the place first", yard, NO_PLACE, () -> yard.grow(-1, step));
        }
        refusesOtherPlaces("11: grow", (on, place) -> on.grow(place, 1));
    }

    private static void sort() {
        Cubeyard yard = filled();
        Check.due("12: moved", yard.sort(), 7);
        int[] due = {-524280, -27, -7, 0, 0, 16, 216, 65535};
        int[] kinds = {2, 3, 3, 3, 2, 0, 0, 1};
        for (int place = 0; place < 8; place++) {
            Check.due("12: volume at " + place, yard.volume(place), due[place]);
            Check.due("12: kind at " + place, yard.kind(place), kinds[place]);
            Check.due("12: fine edge at " + place, yard.fine(place), new Model.Cube(
                    kinds[place] % 2 == 1 ? Math.abs(due[place]) : Math.abs(due[place]) / 8, kinds[place] % 2 == 1,
                    kinds[place] >= 2).fine());
        }
        Check.due("12: the tower stays", yard.under(Integer.MAX_VALUE), 2);
        Check.due("12: once more", yard.sort(), 0);
        Check.due("12: of the same edges none moves", new Cubeyard().sort(), 0);
        Cubeyard same = new Cubeyard();
        same.put(0, 8, true, false);
        same.put(1, 1, false, false);
        same.put(7, 1, true, true);
        Check.due("12: all move", same.sort(), 8);
        Check.due("12: the same edges keep their order", same.kind(6) + " " + same.kind(7), "1 0");
        Check.due("12: the least one comes first", same.volume(0), -1);
        Cubeyard two = new Cubeyard();
        two.put(0, 5, false, true);
        two.put(2, 3, false, false);
        two.put(7, 4, false, false);
        Check.due("12: all from the third one on", two.sort(), 5);
    }

    private static void opposite() {
        Cubeyard yard = filled();
        Check.due("13: of 2", yard.opposite(2, 0), true);
        Check.due("13: told in the same way", yard.volume(0) + " " + yard.kind(0) + " " + yard.fine(0), "-16 2 -1290");
        Check.due("13: of -7 eighths", yard.opposite(3, 3), true);
        Check.due("13: into itself", yard.volume(3) + " " + yard.kind(3), "7 1");
        Check.due("13: of 0 below", yard.opposite(4, 1), true);
        Check.due("13: 0 above", yard.kind(1) + " " + yard.bits(1), "1 0");
        Check.due("13: of 0 above", yard.opposite(1, 1), true);
        Check.due("13: 0 below", yard.kind(1) + " " + yard.bits(1), "3 " + Long.MIN_VALUE);
        Check.due("13: the first one is kept", yard.volume(2) + " " + yard.kind(2), "16 0");
        refusesOtherPlaces("13: opposite, first", (on, place) -> on.opposite(place, 0));
        refusesOtherPlaces("13: opposite, into", (on, place) -> on.opposite(0, place));
    }

    private static void eightfold() {
        Cubeyard yard = filled();
        Check.due("14: of 27 eighths below", yard.eightfold(1, 0), true);
        Check.due("14: units for eighths", yard.volume(0) + " " + yard.kind(0) + " " + yard.fine(0), "-216 2 -3072");
        Check.due("14: of 2", yard.eightfold(2, 2), true);
        Check.due("14: eight times the count", yard.volume(2) + " " + yard.kind(2), "128 0");
        Check.due("14: of the most eighths", yard.eightfold(6, 6), true);
        Check.due("14: as many units", yard.volume(6) + " " + yard.kind(6), "524280 0");
        Check.due("14: of 0 below", yard.eightfold(4, 5), true);
        Check.due("14: 0 below", yard.kind(5) + " " + yard.bits(5), "2 " + Long.MIN_VALUE);
        Cubeyard most = with(8191, false, true);
        Check.due("14: of 8191", most.eightfold(0, 1), true);
        Check.due("14: 65528", most.volume(1) + " " + most.kind(1), "-524224 2");
        for (int count : new int[] {8192, 65535}) {
            Cubeyard large = with(count, false, false);
            Check.refuses("14: of " + count, large, NO_VOLUME, () -> large.eightfold(0, 1));
            Check.refuses("14: the place first", large, NO_PLACE, () -> large.eightfold(0, 8));
        }
        refusesOtherPlaces("14: eightfold, first", (on, place) -> on.eightfold(place, 0));
        refusesOtherPlaces("14: eightfold, into", (on, place) -> on.eightfold(0, place));
    }

    private static void eighth() {
        Cubeyard yard = filled();
        Check.due("15: of 27", yard.eighth(0, 2), true);
        Check.due("15: eighths for units", yard.volume(2) + " " + yard.kind(2) + " " + yard.fine(2), "27 1 1536");
        Check.due("15: of 65535 below", yard.eighth(5, 5), true);
        Check.due("15: as many eighths", yard.volume(5) + " " + yard.kind(5), "-65535 3");
        yard.put(1, 64, true, true);
        Check.due("15: of 64 eighths", yard.eighth(1, 1), true);
        Check.due("15: an eighth of the count", yard.volume(1) + " " + yard.kind(1), "-8 3");
        Check.due("15: of 0 eighths below", yard.eighth(4, 0), true);
        Check.due("15: 0 eighths below", yard.kind(0) + " " + yard.bits(0), "3 " + Long.MIN_VALUE);
        for (int count : new int[] {1, 7, 9, 12, 65535}) {
            Cubeyard odd = with(count, true, count == 9);
            Check.refuses("15: of " + count, odd, NO_VOLUME, () -> odd.eighth(0, 1));
            Check.refuses("15: the place first", odd, NO_PLACE, () -> odd.eighth(0, -1));
        }
        refusesOtherPlaces("15: eighth, first", (on, place) -> on.eighth(place, 0));
        refusesOtherPlaces("15: eighth, into", (on, place) -> on.eighth(0, place));
    }

    private static void isNear() {
        Cubeyard yard = filled();
        for (int place = 0; place < 8; place++) {
            Check.due("16: at " + place, yard.isNear(place), true);
        }
        refusesOtherPlaces("16: isNear", Cubeyard::isNear);
    }

    private static void multiply() {
        Cubeyard yard = filled();
        Check.due("17: 2 times -7 eighths", yard.multiply(2, 3, 0), true);
        Check.due("17: reduced to eighths, below", yard.volume(0) + " " + yard.kind(0), "-14 3");
        yard.put(0, 8, true, true);
        Check.due("17: -8 eighths times -27 eighths", yard.multiply(0, 1, 1), true);
        Check.due("17: above, in eighths", yard.volume(1) + " " + yard.kind(1), "27 1");
        Check.due("17: 2 times 2, into itself", yard.multiply(2, 2, 2), true);
        Check.due("17: in units", yard.volume(2) + " " + yard.kind(2) + " " + yard.fine(2), "32 0 1625");
        Check.due("17: 0 below times 4", yard.multiply(4, 2, 5), true);
        Check.due("17: 0 units below", yard.kind(5) + " " + yard.bits(5), "2 " + Long.MIN_VALUE);
        Check.due("17: 0 below times 0 below", yard.multiply(4, 7, 7), true);
        Check.due("17: 0 units above", yard.kind(7) + " " + yard.bits(7), "0 0");
        Cubeyard large = with(255, false, true);
        large.put(1, 257, false, false);
        Check.due("17: the most", large.multiply(0, 1, 2), true);
        Check.due("17: 65535 below", large.volume(2) + " " + large.kind(2), "-524280 2");
        large.put(3, 256, false, false);
        Check.refuses("17: 65536", large, NO_VOLUME, () -> large.multiply(3, 3, 4));
        large.put(4, 65535, false, false);
        Check.refuses("17: the greatest", large, NO_VOLUME, () -> large.multiply(4, 4, 4));
        large.put(5, 1, true, false);
        Check.refuses("17: a 64th", large, NO_VOLUME, () -> large.multiply(5, 5, 6));
        Check.due("17: 65535 eighths", large.multiply(4, 5, 6), true);
        Check.due("17: are a volume", large.volume(6) + " " + large.kind(6), "65535 1");
        large.put(7, 3, true, true);
        Check.refuses("17: 196605 eighths", large, NO_VOLUME, () -> large.multiply(4, 7, 6));
        large.put(7, 9, true, true);
        large.put(4, 65528, false, false);
        Check.refuses("17: 73719 units", large, NO_VOLUME, () -> large.multiply(4, 7, 6));
        Check.refuses("17: the place first", large, NO_PLACE, () -> large.multiply(4, 7, 8));
        refusesOtherPlaces("17: multiply, first", (on, place) -> on.multiply(place, 0, 0));
        refusesOtherPlaces("17: multiply, second", (on, place) -> on.multiply(0, place, 0));
        refusesOtherPlaces("17: multiply, into", (on, place) -> on.multiply(0, 2, place));
    }

    private static void add() {
        Cubeyard yard = filled();
        Check.due("18: 27 and 2", yard.add(0, 2, 1), true);
        Check.due("18: 29", yard.volume(1) + " " + yard.kind(1), "232 0");
        yard.put(3, 5, true, false);
        Check.due("18: 2 and 5 eighths", yard.add(2, 3, 2), true);
        Check.due("18: 21 eighths", yard.volume(2) + " " + yard.kind(2) + " " + yard.fine(2), "21 1 1412");
        yard.put(4, 3, true, false);
        Check.due("18: 5 and 3 eighths", yard.add(3, 4, 3), true);
        Check.due("18: reduced to units", yard.volume(3) + " " + yard.kind(3), "8 0");
        for (int place : new int[] {5, 7}) {
            Check.refuses("18: below or 0, first", yard, WRONG, () -> yard.add(place, 0, 0));
            Check.refuses("18: below or 0, second", yard, WRONG, () -> yard.add(0, place, 0));
            Check.refuses("18: the place first", yard, NO_PLACE, () -> yard.add(0, place, 8));
        }
        yard.put(5, 0, false, false);
        Check.refuses("18: 0 above, first", yard, WRONG, () -> yard.add(5, 0, 0));
        Check.refuses("18: 0 above, second", yard, WRONG, () -> yard.add(0, 5, 0));
        Cubeyard large = with(65534, false, false);
        large.put(1, 1, false, false);
        large.put(2, 1, true, false);
        large.put(3, 65535, true, false);
        Check.due("18: the most", large.add(0, 1, 4), true);
        Check.due("18: 65535", large.volume(4) + " " + large.kind(4), "524280 0");
        Check.refuses("18: 65536", large, NO_VOLUME, () -> large.add(4, 1, 5));
        Check.refuses("18: too many eighths", large, NO_VOLUME, () -> large.add(0, 2, 5));
        Check.due("18: 65536 eighths are 8192", large.add(3, 2, 5), true);
        Check.due("18: 8192", large.volume(5) + " " + large.kind(5), "65536 0");
        large.put(2, 2, true, false);
        Check.refuses("18: 65537 eighths", large, NO_VOLUME, () -> large.add(3, 2, 5));
        large.put(6, 65535, false, true);
        Check.refuses("18: the sign ahead of the sum", large, WRONG, () -> large.add(4, 6, 5));
        refusesOtherPlaces("18: add, first", (on, place) -> on.add(place, 0, 0));
        refusesOtherPlaces("18: add, second", (on, place) -> on.add(0, place, 0));
        refusesOtherPlaces("18: add, into", (on, place) -> on.add(0, 2, place));
    }

    private static void find() {
        Cubeyard yard = filled();
        for (boolean isEighths : new boolean[] {false, true}) {
            Check.due("19: 0", yard.find(0, isEighths), 0);
            Check.due("19: below 0", yard.find(Integer.MIN_VALUE, isEighths), 0);
            Check.due("19: 1", yard.find(1, isEighths), 1);
            int most = isEighths ? 20642 : 41284;
            Check.due("19: the most", yard.find(most, isEighths), 65531);
            for (int fine : new int[] {most + 1, Integer.MAX_VALUE}) {
                Check.refuses("19: " + fine, yard, NO_VOLUME, () -> yard.find(fine, isEighths));
            }
        }
        Check.due("19: 1024", yard.find(1024, false), 1);
        Check.due("19: 1025", yard.find(1025, false), 2);
        Check.due("19: 512 of eighths", yard.find(512, true), 1);
        Check.due("19: 513 of eighths", yard.find(513, true), 2);
        Check.due("19: 40960", yard.find(40960, false), 64000);
        Model model = new Model();
        for (int fine = -2; fine <= 41286; fine++) {
            int told = fine;
            Check.due("19: find(" + fine + ", false)", Check.outcome(() -> yard.find(told, false)),
                    Check.outcome(() -> model.find(told, false)));
            Check.due("19: find(" + fine + ", true)", Check.outcome(() -> yard.find(told, true)),
                    Check.outcome(() -> model.find(told, true)));
        }
    }

    private static void sum() {
        Cubeyard yard = filled();
        Check.due("20: of the first ten", yard.sum(0, 10), 15162);
        Check.due("20: of 256", yard.sum(60000, 256), 10269724);
        Check.due("20: to the last one", yard.sum(65280, 256), new Model().sum(65280, 256));
        Check.due("20: the last one", yard.sum(65535, 1), 41284);
        refusesOtherCounts("20: sum", yard::sum);
    }

    private static void exact() {
        Cubeyard yard = filled();
        Check.due("21: of the first seventy", yard.exact(0, 70), 5);
        Check.due("21: 64000 eighths", yard.exact(64000, 1), 1);
        Check.due("21: behind it", yard.exact(64001, 256), 0);
        Check.due("21: to the last one", yard.exact(65280, 256), 0);
        int all = 0;
        for (int from = 0; from <= 65535; from += 256) {
            all += yard.exact(from, 256);
        }
        Check.due("21: of all", all, 41);
        refusesOtherCounts("21: exact", yard::exact);
    }

    private interface OnCounts {
        Object answer(int from, int many);
    }

    private static void refusesOtherCounts(String name, OnCounts call) {
        Cubeyard any = filled();
        for (int from : new int[] {-3, 0, 65536, Integer.MIN_VALUE, Integer.MAX_VALUE}) {
            Check.due(name + " of none from " + from, call.answer(from, 0), 0);
            for (int many : new int[] {-1, 257, Integer.MIN_VALUE, Integer.MAX_VALUE}) {
                Check.refuses(name + "(" + from + ", " + many + ")", any, WRONG, () -> call.answer(from, many));
            }
        }
        int[][] wrong = {{-1, 1}, {-1, 2}, {65536, 1}, {65535, 2}, {65281, 256}, {Integer.MAX_VALUE, 1},
            {Integer.MAX_VALUE, 256}, {Integer.MIN_VALUE, 256}};
        for (int[] row : wrong) {
            Check.refuses(name + "(" + row[0] + ", " + row[1] + ")", any, WRONG, () -> call.answer(row[0], row[1]));
        }
    }

    private static Cubeyard withTower(int cubes) {
        Cubeyard yard = with(27, false, false);
        for (int i = 0; i < cubes; i++) {
            yard.lay(0);
        }
        return yard;
    }

    private static void lay() {
        Cubeyard yard = with(1, true, false);
        Check.due("22: the first", yard.lay(0), 512);
        yard.put(1, 8191, false, false);
        Check.due("22: the second", yard.lay(1), 21153);
        Check.due("22: the place keeps it", yard.volume(1) + " " + yard.kind(1), "65528 0");
        Check.due("22: once more", yard.lay(1), 41794);
        yard.put(2, 5, false, true);
        yard.put(3, 0, true, true);
        for (int place : new int[] {2, 3, 4}) {
            Check.refuses("22: below, or 0", yard, WRONG, () -> yard.lay(place));
        }
        Cubeyard full = withTower(59);
        Check.due("22: the last one", full.lay(0), 60 * 3072);
        Check.refuses("22: one more", full, IllegalStateException.class, () -> full.lay(0));
        Check.refuses("22: the volume ahead of the tower", full, WRONG, () -> full.lay(1));
        Check.refuses("22: the place ahead of all", full, NO_PLACE, () -> full.lay(8));
        refusesOtherPlaces("22: lay", Cubeyard::lay);
    }

    private static void lift() {
        Cubeyard yard = filled();
        Check.due("23: the uppermost one", yard.lift(7), 3072);
        Check.due("23: into the place", yard.volume(7) + " " + yard.kind(7) + " " + yard.fine(7), "65535 1 20642");
        Check.due("23: the lowest one", yard.lift(1), 0);
        Check.due("23: into the other place", yard.volume(1) + " " + yard.kind(1), "216 0");
        Check.refuses("23: none", yard, NoSuchElementException.class, () -> yard.lift(0));
        Check.refuses("23: the place first", yard, NO_PLACE, () -> yard.lift(8));
        Cubeyard full = withTower(60);
        Check.due("23: from a full one", full.lift(0), 59 * 3072);
        Check.due("23: there is room again", full.lay(0), 60 * 3072);
        refusesOtherPlaces("23: lift", Cubeyard::lift);
    }

    private static void under() {
        Cubeyard yard = filled();
        int[][] due = {{-1, 0}, {Integer.MIN_VALUE, 0}, {0, 0}, {3071, 0}, {3072, 1}, {23713, 1}, {23714, 2},
            {Integer.MAX_VALUE, 2}};
        for (int[] row : due) {
            Check.due("24: under(" + row[0] + ")", yard.under(row[0]), row[1]);
            Check.due("24: of none", new Cubeyard().under(row[0]), 0);
        }
        Check.due("24: of a full one", withTower(60).under(60 * 3072), 60);
        Check.due("24: of a full one, less", withTower(60).under(60 * 3072 - 1), 59);
    }

    private static void melt() {
        Cubeyard yard = with(1, true, false);
        yard.lay(0);
        yard.put(1, 8191, false, false);
        yard.lay(1);
        Check.due("25: to eighths", yard.melt(5), 512);
        Check.due("25: in the place", yard.volume(5) + " " + yard.kind(5) + " " + yard.fine(5), "65529 1 20641");
        Check.due("25: the tower has none", yard.under(Integer.MAX_VALUE) + " " + yard.upperShare(), "0 0.0");
        Check.refuses("25: none", yard, NoSuchElementException.class, () -> yard.melt(0));
        Check.refuses("25: the place first", yard, NO_PLACE, () -> yard.melt(-1));
        Check.due("25: the height begins anew", yard.lay(0), 512);
        Cubeyard units = withTower(60);
        Check.due("25: to units", units.melt(0), 60 * 3072 - new Model.Cube(1620, false, false).fine());
        Check.due("25: 1620", units.volume(0) + " " + units.kind(0), "12960 0");
        Cubeyard one = with(8, true, false);
        one.lay(0);
        Check.due("25: one", one.melt(0), 0);
        Check.due("25: reduced", one.volume(0) + " " + one.kind(0), "8 0");
        Cubeyard large = with(65535, false, false);
        large.lay(0);
        large.put(1, 1, true, false);
        large.lay(1);
        Check.refuses("25: too many eighths", large, NO_VOLUME, () -> large.melt(0));
        Check.refuses("25: the place ahead of the sum", large, NO_PLACE, () -> large.melt(8));
        large.lift(1);
        Check.due("25: the most", large.melt(2), 0);
        Check.due("25: 65535", large.volume(2), 524280);
        for (int i = 0; i < 60; i++) {
            large.lay(0);
        }
        Check.refuses("25: too many units", large, NO_VOLUME, () -> large.melt(0));
        refusesOtherPlaces("25: melt", Cubeyard::melt);
    }

    private static void upperShare() {
        Check.due("26: of none", new Cubeyard().upperShare(), 0.0f);
        Check.due("26: of one", withTower(1).upperShare(), 1.0f);
        Check.due("26: of two", filled().upperShare(), 20642f / 23714f);
        Check.due("26: of sixty", withTower(60).upperShare(), 3072f / 184320f);
        Cubeyard yard = withTower(2);
        yard.lift(0);
        yard.lift(0);
        Check.due("26: of none again", yard.upperShare(), 0.0f);
    }

    private static void checksum() {
        long due = 7;
        for (int i = 0; i < 25; i++) {
            due *= 31;
        }
        Check.due("27: at first", new Cubeyard().checksum(), due);
        Cubeyard yard = filled();
        long[] seen = {216, 0, 3072, -27, 3, -1536, 16, 0, 1290, -7, 3, yard.fine(3), 0, 3, 0, -524280, 2, -41284,
            65535, 1, 20642, 0, 2, 0, 2, 216, 0, 65535, 1};
        due = 7;
        for (long each : seen) {
            due = 31 * due + each;
        }
        Check.due("27: of all", yard.checksum(), due);
        Check.due("27: it changes nothing", yard.checksum(), due);
    }

    private static void isSound() {
        Check.due("28: at first", new Cubeyard().isSound(), true);
        Cubeyard yard = filled();
        String before = Looks.of(yard);
        Check.due("28: filled", yard.isSound(), true);
        Check.due("28: it changes nothing", Looks.of(yard), before);
        int count = 1;
        for (int i = 0; i < 400; i++) {
            count = (int) (count * 48271L % 65521);
            yard.put(i % 8, count >> (i / 4 % 16), i % 3 == 0, i % 5 == 0);
            Check.due("28: with " + Looks.of(yard), yard.isSound(), true);
        }
    }
}
