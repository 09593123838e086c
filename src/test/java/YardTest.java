/** Promises 1 to 12, the yard, sentence by sentence. */
public final class YardTest extends Rows {
    public static void main(String[] args) {
        newObject();
        put();
        volume();
        kind();
        fine();
        whole();
        coarse();
        isExact();
        bits();
        order();
        grow();
        growRefused();
        sort();
        close();
    }

    private static void newObject() {
        sentence("1: Each place has the volume 0 units above.");
        for (int place = 0; place < 8; place++) {
            row("", "volume(*) kind(*) fine(*) bits(*)".replace("*", "" + place), "0 0 0 0", "0 0 0 0 0 0 0 0");
        }
        sentence("1: The tower has no cubes.");
        row("", "under(MAX) upperShare() lift(0) melt(0)", "0 0.0 " + IS_EMPTY + " " + IS_EMPTY);
        // What another object was told does not matter.
        Yards.of("27 -2e | 27*60");
        row("", "volume(0) kind(1) under(MAX)", "0 0 0");
    }

    private static void put() {
        sentence("2: Puts a volume into a place.");
        row(ANY, "put(2, 28, false, false) volume(2) kind(2)", "3109 224 0", ANY.replace(" 2 ", " 28 "));
        row("5", "put(0, 27, true, false) volume(0) kind(0)", "1536 27 1", "27e");
        row("5", "put(0, 27, false, true) volume(0) kind(0)", "-3072 -216 2", "-27");
        row("5", "put(0, 27, true, true) volume(0) kind(0)", "-1536 -27 3", "-27e");
        sentence("2: place: 0 to 7; IndexOutOfBoundsException if there is no such place");
        row("5", "put(0, 1, false, false) volume(0)", "1024 8", "1");
        row("5", "put(7, 1, false, false) volume(7)", "1024 8", "5 0 0 0 0 0 0 1");
        noPlaces("put(*, 1, false, false)");
        sentence("2: count: 0 to 65535; IllegalArgumentException if there is no such count");
        row("5", "put(0, 0, false, false) volume(0) kind(0)", "0 0 0", "0");
        row("5", "put(0, 0, true, false) volume(0) kind(0)", "0 0 1", "0e");
        row("5", "put(0, 0, false, true) volume(0) kind(0)", "0 0 2", "-0");
        row("5", "put(0, 0, true, true) volume(0) kind(0)", "0 0 3", "-0e");
        row("5", "put(0, 65535, false, false) volume(0) kind(0)", "41284 524280 0", "65535");
        row("5", "put(0, 65535, true, false) volume(0) kind(0)", "20642 65535 1", "65535e");
        row("5", "put(0, 65535, false, true) volume(0) kind(0)", "-41284 -524280 2", "-65535");
        row("5", "put(0, 65535, true, true) volume(0) kind(0)", "-20642 -65535 3", "-65535e");
        for (String count : new String[] {"-1", "65536", "-65535", "131071", "MIN", "MAX"}) {
            for (String kind : new String[] {"false, false", "true, false", "false, true", "true, true"}) {
                row(ANY, "put(3, " + count + ", " + kind + ")", WRONG);
            }
        }
        sentence("2: Returns the fine edge.");
        row("5", "put(0, 2, false, false) fine(0)", "1290 1290", "2");
        row("5", "put(0, 2, false, true) fine(0)", "-1290 -1290", "-2");
        row("5", "put(0, 1, true, true) fine(0)", "-512 -512", "-1e");
        row("5", "put(0, 0, true, true) fine(0)", "0 0", "-0e");
    }

    private static void volume() {
        sentence("3: Returns how many eighths, less than 0 for one below.");
        row("27 27e -27 -27e", "volume(0) volume(1) volume(2) volume(3)", "216 27 -216 -27");
        row("1 1e -1 -1e", "volume(0) volume(1) volume(2) volume(3)", "8 1 -8 -1");
        row("0 0e -0 -0e", "volume(0) volume(1) volume(2) volume(3)", "0 0 0 0");
        row("65535 65535e -65535 -65535e", "volume(0) volume(1) volume(2) volume(3)", "524280 65535 -524280 -65535");
        sentence("3: place: 0 to 7; IndexOutOfBoundsException if there is no such place");
        row("1 2 3 4 5 6 7 8", "volume(0) volume(7)", "8 64");
        noPlaces("volume(*)");
    }

    private static void kind() {
        sentence("4: Returns 0 for units above, 1 for eighths above, 2 for units below, 3 for eighths below.");
        row("27 27e -27 -27e", "kind(0) kind(1) kind(2) kind(3)", "0 1 2 3");
        row("0 0e -0 -0e", "kind(0) kind(1) kind(2) kind(3)", "0 1 2 3");
        row("1 8e -1 -8e", "kind(0) kind(1) kind(2) kind(3)", "0 1 2 3");
        row("65535 65535e -65535 -65535e", "kind(0) kind(1) kind(2) kind(3)", "0 1 2 3");
        sentence("4: place: 0 to 7; IndexOutOfBoundsException if there is no such place");
        row("1e 2 3 4 5 6 7 -8e", "kind(0) kind(7)", "1 3");
        noPlaces("kind(*)");
    }

    private static void fine() {
        sentence("5: Returns the fine edge.");
        row("27 27e -27 -27e", "fine(0) fine(1) fine(2) fine(3)", "3072 1536 -3072 -1536");
        row("2 -2 2e -2e", "fine(0) fine(1) fine(2) fine(3)", "1290 -1290 645 -645");
        row("0 0e -0 -0e", "fine(0) fine(1) fine(2) fine(3)", "0 0 0 0");
        row("1e -1e 1 -1", "fine(0) fine(1) fine(2) fine(3)", "512 -512 1024 -1024");
        row("63999 64000 -63999 -64000", "fine(0) fine(1) fine(2) fine(3)", "40959 40960 -40959 -40960");
        row("63999e 64000e 65535 65535e", "fine(0) fine(1) fine(2) fine(3)", "20479 20480 41284 20642");
        sentence("5: place: 0 to 7; IndexOutOfBoundsException if there is no such place");
        row("1 2 3 4 5 6 7 8", "fine(0) fine(7)", "1024 2048");
        noPlaces("fine(*)");
    }

    private static void whole() {
        sentence("6: Returns an edge, rounded towards 0.");
        row("26 27 -26 -27", "whole(0) whole(1) whole(2) whole(3)", "2 3 -2 -3");
        row("7e 8e -7e -8e", "whole(0) whole(1) whole(2) whole(3)", "0 1 0 -1");
        row("63e 64e -63e -64e", "whole(0) whole(1) whole(2) whole(3)", "1 2 -1 -2");
        row("63999 64000 -63999 -64000", "whole(0) whole(1) whole(2) whole(3)", "39 40 -39 -40");
        row("65535 65535e -65535 -65535e", "whole(0) whole(1) whole(2) whole(3)", "40 20 -40 -20");
        row("0 -0 1e -1e", "whole(0) whole(1) whole(2) whole(3)", "0 0 0 0");
        sentence("6: place: 0 to 7; IndexOutOfBoundsException if there is no such place");
        row("1 2 3 4 5 6 7 8", "whole(0) whole(7)", "1 2");
        noPlaces("whole(*)");
    }

    private static void coarse() {
        sentence("7: Returns the fine edge divided by 1024, which is 0.0 for 0.");
        row("0 0e -0 -0e", "coarse(0) coarse(1) coarse(2) coarse(3)", "0.0 0.0 0.0 0.0");
        row("1e -1e 27e -27e", "coarse(0) coarse(1) coarse(2) coarse(3)", "0.5 -0.5 1.5 -1.5");
        row("2 -2 65535 -65535e", "coarse(0) coarse(1) coarse(2) coarse(3)", 1290 / 1024.0 + " " + -1290 / 1024.0 + " "
                + 41284 / 1024.0 + " " + -20642 / 1024.0);
        sentence("7: place: 0 to 7; IndexOutOfBoundsException if there is no such place");
        row("1 2 3 4 5 6 7 8", "coarse(0) coarse(7)", "1.0 2.0");
        noPlaces("coarse(*)");
    }

    private static void isExact() {
        sentence("8: Tells whether an edge is exact.");
        for (int half = 0; half <= 40; half++) {
            int count = half * half * half;
            String beside = count < 2 ? "2e" : count - 1 + "e " + (count + 1) + "e";
            row(count + "e -" + count + "e " + beside, "isExact(0) isExact(1) isExact(2)", "true true false");
            row(count + "e " + beside, "isExact(0) isExact(1) isExact(2)", "true false " + (count < 2 ? "true" : "false"));
            beside = count < 2 ? "2" : count - 1 + " " + (count + 1);
            row(count + " -" + count + " " + beside, "isExact(0) isExact(1) isExact(2)", "true true false");
            row(count + " " + beside, "isExact(0) isExact(1) isExact(2)", "true false " + (count < 2 ? "true" : "false"));
        }
        row("0 0e -0 -0e", "isExact(0) isExact(1) isExact(2) isExact(3)", "true true true true");
        row("65535 65535e -65535 -65535e", "isExact(0) isExact(1) isExact(2) isExact(3)", "false false false false");
        sentence("8: place: 0 to 7; IndexOutOfBoundsException if there is no such place");
        row("1 2 2 2 2 2 2 8", "isExact(0) isExact(7) isExact(6)", "true true false");
        noPlaces("isExact(*)");
    }

    private static void bits() {
        sentence("9: Returns the bits of an exact edge, as by Double.doubleToLongBits.");
        row("27 -27e 1e -64000", "bits(0) bits(1) bits(2) bits(3)", Double.doubleToLongBits(3.0) + " "
                + Double.doubleToLongBits(-1.5) + " " + Double.doubleToLongBits(0.5) + " " + Double.doubleToLongBits(-40.0));
        row("0 0e -0 -0e", "bits(0) bits(1) bits(2) bits(3)", "0 0 -9223372036854775808 -9223372036854775808");
        row("1 -1 64000e -59319e", "bits(0) bits(1) bits(2) bits(3)", Double.doubleToLongBits(1.0) + " "
                + Double.doubleToLongBits(-1.0) + " " + Double.doubleToLongBits(20.0) + " " + Double.doubleToLongBits(-19.5));
        sentence("9: ArithmeticException if its edge is not exact");
        for (String volume : new String[] {"2", "-2e", "7", "7e", "9e", "-26", "28", "26e", "28e", "63999", "64001", "65535",
            "-65535e"}) {
            row(volume + " 3 | 5", "bits(0)", NO_NUMBER);
        }
        sentence("9: place: 0 to 7; IndexOutOfBoundsException if there is no such place");
        row("1 2 2 2 2 2 2 -1", "bits(0) bits(7)", "4607182418800017408 -4616189618054758400");
        noPlaces("bits(*)");
    }

    private static void order() {
        sentence("10: Returns -1 if the edge of the first one is less, 1 if it is greater, 0 if neither.");
        row("27 -27e", "order(0, 1) order(1, 0) order(0, 0) order(1, 1)", "1 -1 0 0");
        row("-28 -27", "order(0, 1) order(1, 0)", "-1 1");
        row("0 -0 -0e 0e", "order(0, 1) order(1, 0) order(2, 3) order(1, 2)", "0 0 0 0");
        row("0 -0 1e -1e", "order(0, 2) order(1, 2) order(0, 3) order(3, 1)", "-1 -1 1 -1");
        row("2 16e -2 -16e", "order(0, 1) order(1, 0) order(2, 3) order(0, 2)", "0 0 0 1");
        row("65535 65534 -65535 -65534", "fine(1) order(0, 1) order(1, 0) order(2, 3) order(3, 2)", "41284 1 -1 -1 1");
        row("65535e 65534e", "order(0, 1) order(1, 0)", "1 -1");
        sentence("10: place, other: 0 to 7; IndexOutOfBoundsException if there is no such place, for either");
        row("1 2 3 4 5 6 7 8", "order(0, 7) order(7, 0) order(7, 7)", "-1 1 0");
        noPlaces("order(*, 0)");
        noPlaces("order(7, *)");
        noPlaces("order(*, *)");
    }

    private static void grow() {
        sentence("11: Adds to the count of a volume.");
        row("26", "grow(0, 1) volume(0)", "39 216", "27");
        row("27", "grow(0, -26) volume(0)", "-2048 8", "1");
        row(ANY, "grow(2, 0)", "0");
        sentence("11: Units stay units, eighths eighths, above stays above, below below.");
        row("7 7e -7 -7e", "grow(0, 1) grow(1, 1) grow(2, 1) grow(3, 1) kind(0) kind(1) kind(2) kind(3)",
                "90 45 90 45 0 1 2 3", "8 8e -8 -8e");
        row("1 1e -1 -1e", "grow(0, -1) grow(1, -1) grow(2, -1) grow(3, -1) kind(0) kind(1) kind(2) kind(3)",
                "-1024 -512 -1024 -512 0 1 2 3", "0 0e -0 -0e");
        row("0 0e -0 -0e", "grow(0, 1) grow(1, 1) grow(2, 1) grow(3, 1) kind(0) kind(1) kind(2) kind(3)",
                "1024 512 1024 512 0 1 2 3", "1 1e -1 -1e");
        sentence("11: Returns how much greater the fine edge, without its sign, is then.");
        row("1", "grow(0, 26) fine(0)", "2048 3072", "27");
        row("-1", "grow(0, 26) fine(0)", "2048 -3072", "-27");
        row("-27", "grow(0, -26) fine(0)", "-2048 -1024", "-1");
        row("-65534", "grow(0, 1)", "0", "-65535");
        sentence("11: place: 0 to 7; IndexOutOfBoundsException if there is no such place");
        row("1 2 3 4 5 6 7 8", "grow(0, 7) grow(7, -7)", "1024 -1024", "8 2 3 4 5 6 7 1");
        noPlaces("grow(*, 1)");
        noPlaces("grow(*, 0)");
    }

    private static void growRefused() {
        sentence("11: ArithmeticException if the sum is not from 0 to 65535");
        row("0", "grow(0, 65535)", "41284", "65535");
        row("65535", "grow(0, -65535)", "-41284", "0");
        row("-0e", "grow(0, 65535)", "20642", "-65535e");
        row("-65535e", "grow(0, -65535)", "-20642", "-0e");
        row("30000", "grow(0, 35535)", "" + (41284 - (int) (StrictMath.cbrt(30000) * 1024)), "65535");
        row("30000", "grow(0, 35536)", NO_NUMBER);
        row("30000", "grow(0, -30001)", NO_NUMBER);
        for (String volume : new String[] {"0", "0e", "-0", "-0e"}) {
            row(volume, "grow(0, -1) grow(0, 65536)", NO_NUMBER + " " + NO_NUMBER);
        }
        for (String volume : new String[] {"65535", "65535e", "-65535", "-65535e"}) {
            row(volume, "grow(0, 1) grow(0, -65536)", NO_NUMBER + " " + NO_NUMBER);
        }
        // A sum of ints would go round.
        for (String volume : new String[] {"0", "1", "-1e", "65535", "-65535e"}) {
            row(volume, "grow(0, MAX) grow(0, MIN)", NO_NUMBER + " " + NO_NUMBER);
            row(volume, "grow(0, 2147418113) grow(0, -2147418113)", NO_NUMBER + " " + NO_NUMBER);
        }
    }

    private static void sort() {
        sentence("12: Sorts the cubes by their edges, the least one to place 0.");
        row(ANY, "sort()", "7", "-65535 -27e -7e -0e -0 2 27 65535e | 27 65535e 3e");
        row("8 7 6 5 4 3 2 1", "sort()", "8", "1 2 3 4 5 6 7 8");
        row("-1 -2 -3 -4 -5 -6 -7 -8", "sort()", "8", "-8 -7 -6 -5 -4 -3 -2 -1");
        row("2 3 4 5 6 7 8 1", "sort()", "8", "1 2 3 4 5 6 7 8");
        row("8 1 2 3 4 5 6 7", "sort()", "8", "1 2 3 4 5 6 7 8");
        row("65535 65534 65533 65532 65535e 65534e 65533e -1e", "sort()", "8",
                "-1e 65533e 65534e 65535e 65532 65533 65534 65535");
        row("1e 0 0 0 0 0 0 -1e", "sort()", "2", "-1e 0 0 0 0 0 0 1e");
        sentence("12: Of edges none of which is less, the one that stood at the lower place comes first.");
        row("8e 1 0 0 0 0 0 0", "sort()", "8", "0 0 0 0 0 0 8e 1");
        row("1 8e 0 0 0 0 0 0", "sort()", "8", "0 0 0 0 0 0 1 8e");
        row("0 -0 0e -0e -0 0 -0e 0e", "sort()", "0");
        row("-0e 0 -0 -1 0e -0 0 -0e", "sort()", "4", "-1 -0e 0 -0 0e -0 0 -0e");
        row("-1 -8e 8e 1 1 8e -8e -1", "sort()", "6", "-1 -8e -8e -1 8e 1 1 8e");
        row("16e 2 1 16e 2 16e 1 2", "sort()", "7", "1 1 16e 2 16e 2 16e 2");
        sentence("12: Returns how many cubes stand at another place then.");
        row("", "sort()", "0", "0");
        row("1 2 3 4 5 6 7 8", "sort() sort()", "0 0");
        row("2 1 3 4 5 6 7 8", "sort() sort()", "2 0", "1 2 3 4 5 6 7 8");
        row("1 2 3 4 5 6 8 7", "sort() sort()", "2 0", "1 2 3 4 5 6 7 8");
        row("8 2 3 4 5 6 7 1", "sort() sort()", "2 0", "1 2 3 4 5 6 7 8");
        row("3 1 2 4 5 6 7 8", "sort() sort()", "3 0", "1 2 3 4 5 6 7 8");
        row("5 5 5 5 5 5 5 4", "sort() sort()", "8 0", "4 5 5 5 5 5 5 5");
        row("5 5 5 5 4 5 5 5", "sort() sort()", "5 0", "4 5 5 5 5 5 5 5");
    }
}
