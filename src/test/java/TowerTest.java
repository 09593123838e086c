/** Promises 22 to 26, the tower, sentence by sentence. */
public final class TowerTest extends Rows {
    public static void main(String[] args) {
        lay();
        layRefused();
        lift();
        under();
        melt();
        meltRefused();
        upperShare();
        close();
    }

    private static void lay() {
        sentence("22: Lays a cube on the tower; the place keeps it, too.");
        row("27 8e", "lay(0) lay(1) lay(0)", "3072 4096 7168", "27 8e | 27 8e 27");
        row("27", "lay(0) grow(0, 1) lay(0) lift(1) lift(2)", "3072 37 6181 3072 0", "28 28 27");
        sentence("22: Returns the height.");
        row("1e | 65535", "lay(0)", "41796", "1e | 65535 1e");
        row("1", "lay(0) lift(1) lay(0) melt(1) lay(0)", "1024 0 1024 0 1024", "1 1 | 1");
        sentence("22: place: 0 to 7; IndexOutOfBoundsException if there is no such place");
        row("1 2 3 4 5 6 7 8", "lay(0) lay(7)", "1024 3072", "1 2 3 4 5 6 7 8 | 1 8");
        noPlaces("lay(*)");
    }

    private static void layRefused() {
        sentence("22: IllegalArgumentException if its volume is below, or 0");
        row("1e 1 65535e 65535", "lay(0) lay(1) lay(2) lay(3)", "512 1536 22178 63462",
                "1e 1 65535e 65535 | 1e 1 65535e 65535");
        for (String refused : new String[] {"0", "0e", "-0", "-0e", "-1e", "-1", "-65535e", "-65535"}) {
            row(refused + " 3 | 5", "lay(0)", WRONG);
            row(refused, "lay(0)", WRONG);
            row(refused + " 3 | 5*60", "lay(0)", WRONG);
        }
        sentence("22: IllegalStateException if the tower has 60");
        row("3 | 27*59", "lay(0) lay(0)", 59 * 3072 + 1476 + " " + IS_FULL, "3 | 27*59 3");
        row("3 | 1e 27*59", "lay(0) lift(1) lay(0) lay(0)",
                IS_FULL + " " + (512 + 58 * 3072) + " " + (512 + 58 * 3072 + 1476) + " " + IS_FULL, "3 27 | 1e 27*58 3");
        row("3 | 27*60", "lay(0) melt(1) lay(0)", IS_FULL + " " + (60 * 3072 - 12026) + " 1476", "3 1620 | 3");
    }

    private static void lift() {
        sentence("23: Takes the uppermost cube from the tower into a place.");
        row("3 | 1 27e 2e", "lift(0)", "2560", "2e | 1 27e");
        row("3 | 1 27e 2e", "lift(0) lift(0)", "2560 1024", "27e | 1");
        row("3 | 1 27e 2e", "lift(0) lift(1) lift(2)", "2560 1024 0", "2e 27e 1");
        row("-3e | 8e", "lift(0) kind(0) bits(0)", "0 1 4607182418800017408", "8e");
        sentence("23: Returns the height.");
        row("3 | 27*60", "lift(1)", "" + 59 * 3072, "3 27 | 27*59");
        row("3 | 65535 1e", "lift(1) lift(2)", "41284 0", "3 1e 65535");
        sentence("23: place into: 0 to 7; IndexOutOfBoundsException if there is no such place");
        row("9 9 9 9 9 9 9 9 | 1 2", "lift(0) lift(7)", "1024 0", "2 9 9 9 9 9 9 1");
        noPlaces("lift(*)");
        row("9", "lift(-1) lift(8)", NO_PLACE + " " + NO_PLACE);
        sentence("23: NoSuchElementException if the tower has none");
        row("", "lift(0)", IS_EMPTY, "0");
        row("9 | 1", "lift(0) lift(0)", "0 " + IS_EMPTY, "1");
        row("9 | 1 1", "melt(1) lift(0)", 2048 - 1290 + " " + IS_EMPTY, "9 2");
        row(ANY, "lift(0) lift(1) lift(2) lift(3)", "23714 3072 0 " + IS_EMPTY,
                ANY.replaceFirst("27 -27e 2 (.*)\\|.*", "3e 65535e 27 $1"));
    }

    private static void under() {
        sentence("24: Returns how many cubes, from the lowest one on, are together not higher than a number.");
        row("| 27 65535e 3e", "under(3071) under(3072) under(3073) under(23713) under(23714) under(23715)", "0 1 1 1 2 2");
        row("| 27 65535e 3e", "under(24451) under(24452) under(24453) under(MAX)", "2 3 3 3");
        row("| 1e", "under(511) under(512) under(513)", "0 1 1");
        row("| 65535 1e", "under(41283) under(41284) under(512) under(41796)", "0 1 0 2");
        row("| 65535*60", "under(2477039) under(2477040) under(MAX) under(2435756)", "59 60 60 59");
        row("5", "under(0) under(1) under(MAX)", "0 0 0");
        sentence("24: 0 if the number is below 0.");
        row("| 27 65535e 3e", "under(0) under(-1) under(MIN) under(-3072)", "0 0 0 0");
        row("5", "under(-1) under(MIN)", "0 0");
        row("| 65535*60", "under(-1) under(MIN)", "0 0");
    }

    private static void melt() {
        sentence("25: Melts all cubes of the tower into one, reduced, in a place; the tower has none then.");
        row("3 | 27 27e", "melt(0) kind(0) under(MAX)", 4608 - fineOf(243 / 8.0) + " 1 0", "243e");
        row("3 | 4e 3e 1e", "melt(0) kind(0) under(MAX)", (812 + 738 + 512 - 1024) + " 0 0", "1");
        row("3 | 16e", "melt(0) kind(0) under(MAX)", "0 0 0", "2");
        row("3 | 7e", "melt(0) kind(0) under(MAX)", "0 1 0", "7e");
        row("3 | 27*60", "melt(1) upperShare() lift(0)", 60 * 3072 - 12026 + " 0.0 " + IS_EMPTY, "3 1620");
        row("3 | 1*60", "melt(0) lay(0)", 60 * 1024 - 4008 + " 4008", "60 | 60");
        sentence("25: Returns by how much the height was more than its fine edge.");
        row("| 1 1", "melt(0)", "" + (2048 - 1290), "2");
        row("| 65535", "melt(0)", "0", "65535");
        row("| 1e*60", "melt(0)", "" + (60 * 512 - 2004), "60e");
        sentence("25: place into: 0 to 7; IndexOutOfBoundsException if there is no such place");
        row("9 9 9 9 9 9 9 9 | 1", "melt(0)", "0", "1 9 9 9 9 9 9 9");
        row("9 9 9 9 9 9 9 9 | 1", "melt(7)", "0", "9 9 9 9 9 9 9 1");
        noPlaces("melt(*)");
        row("9", "melt(-1) melt(8)", NO_PLACE + " " + NO_PLACE);
        sentence("25: NoSuchElementException if the tower has none");
        row("", "melt(0)", IS_EMPTY, "0");
        row("9 | 1", "melt(0) melt(0)", "0 " + IS_EMPTY, "1");
        row("9 | 1", "lift(1) melt(0)", "0 " + IS_EMPTY, "9 1");
    }

    private static int fineOf(double volume) {
        return (int) (1024 * StrictMath.cbrt(volume));
    }

    private static void meltRefused() {
        sentence("25: ArithmeticException if their sum is no volume");
        row("3 | 65534 1", "melt(0)", "1024", "65535");
        row("3 | 65534 7e 1e", "melt(0)", "" + (979 + 512), "65535");
        row("3 | 1092*59 1107", "melt(0)", "" + (59 * 10544 + 10592 - 41284), "65535");
        row("3 | 65534e 1e", "melt(0)", "512", "65535e");
        row("3 | 65535e 1e", "melt(0)", "512", "8192");
        row("3 | 65528e*8", "melt(0)", "" + (8 * 20641 - 41283), "65528");
        row("3 | 65535e*8", "melt(0)", "" + (8 * 20642 - 41284), "65535");
        row("3 | 8191 7e", "melt(0)", "" + (20641 + 979 - 20642), "65535e");
        for (String cubes : new String[] {"65535 1", "65535 1e", "65534 7e", "65534 9e", "8192 1e", "65535e 2e", "65535*60",
            "1092*59 1108", "1092*58 2199 1e", "65535e*2", "65535e*8 1e", "65535e*8 8e", "65535e*60", "1e 65535"}) {
            row("3 4 | " + cubes, "melt(0) melt(1)", NO_NUMBER + " " + NO_NUMBER);
        }
        row("3 | 65535 1e", "melt(0) lift(1) melt(0)", NO_NUMBER + " 41284 0", "65535 1e");
    }

    private static void upperShare() {
        sentence("26: Returns its fine edge divided by the height, both converted to float.");
        row("| 27", "upperShare()", "1.0");
        row("| 3 2", "upperShare()", "" + 1290f / 2766f);
        row("| 27 65535e", "upperShare()", "" + 20642f / 23714f);
        row("| 27 65535e 3e", "upperShare()", "" + 738f / 24452f);
        row("| 27*60", "upperShare()", "" + 3072f / 184320f);
        row("| 65535*59 1e", "upperShare()", "" + 512f / (59 * 41284 + 512));
        row("| 1e*59 65535", "upperShare()", "" + 41284f / (59 * 512 + 41284));
        sentence("26: 0.0f if there is none.");
        row("", "upperShare()", "0.0");
        row("5 | 3 2", "lift(0) upperShare() lift(0) upperShare()", "1476 1.0 0 0.0", "3");
        row("5 | 3 2", "melt(0) upperShare()", 2766 - 1751 + " 0.0", "5");
        row("5", "lift(0) upperShare()", IS_EMPTY + " 0.0");
    }
}
