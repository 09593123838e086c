/** Promises 13 to 18, the theorem call by call, sentence by sentence. */
public final class CallByCallTest extends Rows {
    public static void main(String[] args) {
        opposite();
        eightfold();
        eighth();
        isNear();
        multiply();
        multiplyRefused();
        add();
        addRefused();
        close();
    }

    private static void opposite() {
        sentence("13: Puts the opposite of a volume, below for above, told in the same way, into a place.");
        row("27 27e -27 -27e", "opposite(0, 4) opposite(1, 5) opposite(2, 6) opposite(3, 7)", "true true true true",
                "27 27e -27 -27e -27 -27e 27 27e");
        row("0 0e -0 -0e", "opposite(0, 4) opposite(1, 5) opposite(2, 6) opposite(3, 7)", "true true true true",
                "0 0e -0 -0e -0 -0e 0 0e");
        row("65535 65535e 1e 8e", "opposite(0, 4) opposite(1, 5) opposite(2, 6) opposite(3, 7)", "true true true true",
                "65535 65535e 1e 8e -65535 -65535e -1e -8e");
        row("2 | 2", "opposite(0, 0) kind(0) opposite(0, 0) kind(0)", "true 2 true 0");
        sentence("13: Returns whether its edge is that of the volume with the other sign, bit by bit.");
        row("1e 0 -0", "opposite(0, 0) bits(0) opposite(1, 1) bits(1) opposite(2, 2) bits(2)",
                "true -4620693217682128896 true -9223372036854775808 true 0", "-1e -0 0");
        row("65535 -2e", "opposite(0, 1) order(0, 1) order(1, 0) fine(1)", "true 1 -1 -41284", "65535 -65535");
        sentence("13: place, into: 0 to 7; IndexOutOfBoundsException if there is no such place, for either");
        row("1 2 3 4 5 6 7 8", "opposite(0, 7)", "true", "1 2 3 4 5 6 7 -1");
        row("1 2 3 4 5 6 7 8", "opposite(7, 0)", "true", "-8 2 3 4 5 6 7 8");
        noPlaces("opposite(*, 0)");
        noPlaces("opposite(7, *)");
        noPlaces("opposite(*, *)");
    }

    private static void eightfold() {
        sentence("14: Puts eight times a volume into a place: units for eighths, with the same count.");
        row("27e -7e 0e -0e", "eightfold(0, 4) eightfold(1, 5) eightfold(2, 6) eightfold(3, 7)", "true true true true",
                "27e -7e 0e -0e 27 -7 0 -0");
        row("65535e -65535e 1e -8e", "eightfold(0, 4) eightfold(1, 5) eightfold(2, 6) eightfold(3, 7)",
                "true true true true", "65535e -65535e 1e -8e 65535 -65535 1 -8");
        row("8192e -8193e", "eightfold(0, 0) eightfold(1, 1)", "true true", "8192 -8193");
        sentence("14: Otherwise eight times the count.");
        row("2 -2 0 -0", "eightfold(0, 4) eightfold(1, 5) eightfold(2, 6) eightfold(3, 7)", "true true true true",
                "2 -2 0 -0 16 -16 0 -0");
        sentence("14: ArithmeticException if it is no volume");
        row("8191 -8191", "eightfold(0, 2) eightfold(1, 3)", "true true", "8191 -8191 65528 -65528");
        for (String volume : new String[] {"8192", "-8192", "8193", "16384", "65535", "-65535"}) {
            row(volume + " 3 | 5", "eightfold(0, 1) eightfold(0, 0)", NO_NUMBER + " " + NO_NUMBER);
        }
        sentence("14: Returns whether its edge is twice that of the volume, bit by bit.");
        row("1e", "eightfold(0, 0) bits(0) eightfold(0, 0) bits(0)",
                "true " + Double.doubleToLongBits(1.0) + " true " + Double.doubleToLongBits(2.0), "8");
        row("-0e", "eightfold(0, 0) bits(0) kind(0)", "true -9223372036854775808 2", "-0");
        sentence("14: place, into: 0 to 7; IndexOutOfBoundsException if there is no such place, for either");
        row("1 2 3 4 5 6 7 8", "eightfold(0, 7)", "true", "1 2 3 4 5 6 7 8");
        row("1 2 3 4 5 6 7 9", "eightfold(7, 0)", "true", "72 2 3 4 5 6 7 9");
        noPlaces("eightfold(*, 0)");
        noPlaces("eightfold(2, *)");
        noPlaces("eightfold(5, *)");
        noPlaces("eightfold(*, *)");
    }

    private static void eighth() {
        sentence("15: Puts an eighth of a volume into a place: eighths for units, with the same count.");
        row("27 -7 0 -0", "eighth(0, 4) eighth(1, 5) eighth(2, 6) eighth(3, 7)", "true true true true",
                "27 -7 0 -0 27e -7e 0e -0e");
        row("65535 -65535 1 -8", "eighth(0, 4) eighth(1, 5) eighth(2, 6) eighth(3, 7)", "true true true true",
                "65535 -65535 1 -8 65535e -65535e 1e -8e");
        sentence("15: Otherwise an eighth of the count.");
        row("8e -8e 0e -0e", "eighth(0, 4) eighth(1, 5) eighth(2, 6) eighth(3, 7)", "true true true true",
                "8e -8e 0e -0e 1e -1e 0e -0e");
        row("65528e -64e", "eighth(0, 0) eighth(1, 1)", "true true", "8191e -8e");
        sentence("15: ArithmeticException if the count of eighths of a volume told in eighths is not a multiple of 8");
        for (String volume : new String[] {"1e", "-1e", "4e", "7e", "-7e", "9e", "12e", "65527e", "65529e", "-65535e"}) {
            row(volume + " 3 | 5", "eighth(0, 1) eighth(0, 0)", NO_NUMBER + " " + NO_NUMBER);
        }
        row("1 7 9 -65535", "eighth(0, 0) eighth(1, 1) eighth(2, 2) eighth(3, 3)", "true true true true", "1e 7e 9e -65535e");
        sentence("15: Returns whether twice its edge is that of the volume, bit by bit.");
        row("8", "eighth(0, 0) bits(0) eighth(0, 0) bits(0)",
                "true " + Double.doubleToLongBits(1.0) + " true " + Double.doubleToLongBits(0.5), "1e");
        row("-0", "eighth(0, 0) bits(0) kind(0)", "true -9223372036854775808 3", "-0e");
        sentence("15: place, into: 0 to 7; IndexOutOfBoundsException if there is no such place, for either");
        row("8e 2 3 4 5 6 7 8", "eighth(0, 7)", "true", "8e 2 3 4 5 6 7 1e");
        row("1 2 3 4 5 6 7 8", "eighth(7, 0)", "true", "8e 2 3 4 5 6 7 8");
        noPlaces("eighth(*, 0)");
        noPlaces("eighth(0, *)");
        noPlaces("eighth(1, *)");
        noPlaces("eighth(*, *)");
    }

    private static void isNear() {
        sentence("16: Tells whether a volume, without its sign, lies between the two cubes beside its edge.");
        row("1e -1e 65535 -65535 65535e -65535e 7e -9e", "isNear(0) isNear(1) isNear(2) isNear(3) isNear(4) isNear(5)"
                + " isNear(6) isNear(7)", "true true true true true true true true");
        row("1 -8e 64000 -63999 64001 2 -3 27e", "isNear(0) isNear(1) isNear(2) isNear(3) isNear(4) isNear(5)"
                + " isNear(6) isNear(7)", "true true true true true true true true");
        sentence("16: If it is 0, whether its edge is 0 with the sign of the volume, bit by bit.");
        row("0 0e -0 -0e", "isNear(0) isNear(1) isNear(2) isNear(3)", "true true true true");
        sentence("16: place: 0 to 7; IndexOutOfBoundsException if there is no such place");
        row("1 2 3 4 5 6 7 8", "isNear(0) isNear(7)", "true true");
        noPlaces("isNear(*)");
    }

    private static void multiply() {
        sentence("17: Puts the product of two volumes, reduced, into a place.");
        row("3 5", "multiply(0, 1, 2)", "true", "3 5 15");
        row("3 5e", "multiply(0, 1, 2) multiply(1, 0, 3)", "true true", "3 5e 15e 15e");
        row("2 4e", "multiply(0, 1, 2) kind(2)", "true 0", "2 4e 1");
        row("8e 8e", "multiply(0, 1, 2) kind(2)", "true 0", "8e 8e 1");
        row("8e 7e", "multiply(0, 1, 2) kind(2)", "true 1", "8e 7e 7e");
        row("27e 24e", "multiply(0, 1, 2) kind(2)", "true 1", "27e 24e 81e");
        row("0e 0e", "multiply(0, 1, 2) kind(2)", "true 0", "0e 0e 0");
        row("0e 1e", "multiply(0, 1, 2) kind(2)", "true 0", "0e 1e 0");
        row("0 65535", "multiply(0, 1, 2) multiply(1, 0, 3)", "true true", "0 65535 0 0");
        sentence("17: It is below if just one of them is.");
        row("3 -5", "multiply(0, 0, 2) multiply(0, 1, 3) multiply(1, 0, 4) multiply(1, 1, 5)", "true true true true",
                "3 -5 9 -15 -15 25");
        row("3 -5e 8e", "multiply(0, 1, 3) multiply(1, 0, 4) multiply(1, 2, 5)", "true true true", "3 -5e 8e -15e -15e -5e");
        row("0 -0", "multiply(0, 0, 2) multiply(0, 1, 3) multiply(1, 0, 4) multiply(1, 1, 5)", "true true true true",
                "0 -0 0 -0 -0 0");
        row("0e -5 -0e 5", "multiply(0, 1, 4) multiply(2, 3, 5) multiply(1, 2, 6) multiply(0, 3, 7)", "true true true true",
                "0e -5 -0e 5 -0 -0 0 0");
        sentence("17: Returns whether the exact product of their edges is as near to its edge as (6) tells.");
        row("2 3 -7e 65535e 1", "multiply(0, 1, 5) multiply(0, 2, 6) multiply(3, 4, 7)", "true true true",
                "2 3 -7e 65535e 1 6 -14e 65535e");
        row("27 64", "multiply(0, 1, 2) bits(2)", "true " + Double.doubleToLongBits(12.0), "27 64 1728");
        sentence("17: place, other, into: 0 to 7; IndexOutOfBoundsException if there is no such place, for any");
        row("1 2 3 4 5 6 7 8", "multiply(0, 7, 1)", "true", "1 8 3 4 5 6 7 8");
        row("1 2 3 4 5 6 7 8", "multiply(7, 1, 0)", "true", "16 2 3 4 5 6 7 8");
        row("1 2 3 4 5 6 7 8", "multiply(1, 0, 7)", "true", "1 2 3 4 5 6 7 2");
        noPlaces("multiply(*, 2, 2)");
        noPlaces("multiply(2, *, 2)");
        noPlaces("multiply(2, 2, *)");
        noPlaces("multiply(5, 5, *)");
        noPlaces("multiply(*, *, *)");
    }

    private static void multiplyRefused() {
        sentence("17: ArithmeticException if the product is no whole number of eighths");
        row("8e 1e", "multiply(0, 1, 2)", "true", "8e 1e 1e");
        row("4e 2e", "multiply(0, 1, 2)", "true", "4e 2e 1e");
        row("2e -4e", "multiply(0, 1, 2)", "true", "2e -4e -1e");
        for (String factors : new String[] {"1e 1e", "7e 1e", "9e 1e", "4e 1e", "-2e 2e", "4e -3e", "7e 9e", "63e 65e"}) {
            row(factors + " 3 | 5", "multiply(0, 1, 2) multiply(1, 0, 0)", NO_NUMBER + " " + NO_NUMBER);
        }
        sentence("17: ArithmeticException if the product is no volume");
        row("255 257", "multiply(0, 1, 2)", "true", "255 257 65535");
        row("-65535 8e", "multiply(0, 1, 2)", "true", "-65535 8e -65535");
        row("65535e 1", "multiply(0, 1, 2)", "true", "65535e 1 65535e");
        row("13107e -5", "multiply(0, 1, 2)", "true", "13107e -5 -65535e");
        row("32768e 2", "multiply(0, 1, 2)", "true", "32768e 2 8192");
        row("65535 1e", "multiply(0, 1, 2)", "true", "65535 1e 65535e");
        row("65528e 8", "multiply(0, 1, 2)", "true", "65528e 8 65528");
        for (String factors : new String[] {"256 256", "-256 256", "-256 -256", "65535 2", "2 32768", "65535 9e",
            "65535 3e", "32769e 2", "-21847e 3", "65535e 65535e", "65535e 9e", "65528e 65535", "65535 65535", "-65535 65535"}) {
            row(factors + " 3 | 5", "multiply(0, 1, 2) multiply(1, 0, 0)", NO_NUMBER + " " + NO_NUMBER);
        }
        // As an int the product would go round: in 64ths to 0, 4096 and 8192 units, in units to less than 0.
        for (String factors : new String[] {"8192 8192", "32768 16385e", "8192 8193", "46341 46341"}) {
            row(factors + " 3 | 5", "multiply(0, 1, 2) multiply(1, 0, 0)", NO_NUMBER + " " + NO_NUMBER);
        }
    }

    private static void add() {
        sentence("18: Puts the sum of two volumes that are above and not 0, reduced, into a place.");
        row("3 5", "add(0, 1, 2)", "true", "3 5 8");
        row("3 5e", "add(0, 1, 2) add(1, 0, 3)", "true true", "3 5e 29e 29e");
        row("3e 5e", "add(0, 1, 2) kind(2)", "true 0", "3e 5e 1");
        row("3e 4e", "add(0, 1, 2) kind(2)", "true 1", "3e 4e 7e");
        row("3 8e", "add(0, 1, 2) kind(2)", "true 0", "3 8e 4");
        row("1e 1e", "add(0, 1, 2)", "true", "1e 1e 2e");
        sentence("18: Returns whether its edge is less than the exact sum of their edges.");
        row("65534 1 65535e 1e", "add(0, 1, 4) add(2, 3, 5) add(3, 3, 6)", "true true true",
                "65534 1 65535e 1e 65535 8192 2e");
        sentence("18: place, other, into: 0 to 7; IndexOutOfBoundsException if there is no such place, for any");
        row("1 2 3 4 5 6 7 8", "add(0, 7, 1)", "true", "1 9 3 4 5 6 7 8");
        row("1 2 3 4 5 6 7 8", "add(7, 1, 0)", "true", "10 2 3 4 5 6 7 8");
        row("1 2 3 4 5 6 7 8", "add(1, 0, 7)", "true", "1 2 3 4 5 6 7 3");
        noPlaces("add(*, 2, 2)");
        noPlaces("add(2, *, 2)");
        noPlaces("add(2, 2, *)");
        noPlaces("add(5, 4, *)");
        noPlaces("add(*, *, *)");
    }

    private static void addRefused() {
        sentence("18: IllegalArgumentException if either is below, or 0");
        row("1e 1", "add(0, 1, 2) add(1, 0, 3)", "true true", "1e 1 9e 9e");
        for (String refused : new String[] {"0", "0e", "-0", "-0e", "-1e", "-1", "-65535e", "-65535"}) {
            row("1e " + refused + " 3 | 5", "add(0, 1, 2) add(1, 0, 2) add(1, 1, 0)", WRONG + " " + WRONG + " " + WRONG);
            row("65535 " + refused + " 3 | 5", "add(0, 1, 2) add(1, 0, 2) add(1, 1, 0)", WRONG + " " + WRONG + " " + WRONG);
        }
        sentence("18: ArithmeticException if the sum is no volume");
        row("65534 1", "add(0, 1, 2)", "true", "65534 1 65535");
        row("65534 8e", "add(0, 1, 2)", "true", "65534 8e 65535");
        row("32767 32768", "add(0, 1, 2)", "true", "32767 32768 65535");
        row("8191 7e", "add(0, 1, 2)", "true", "8191 7e 65535e");
        row("65534e 1e", "add(0, 1, 2)", "true", "65534e 1e 65535e");
        row("65535e 1e", "add(0, 1, 2)", "true", "65535e 1e 8192");
        row("65532e 65532e", "add(0, 1, 2)", "true", "65532e 65532e 16383");
        for (String terms : new String[] {"65535 1", "65535 65535", "32768 32768", "65535 8e", "65534 1e", "65534 7e",
            "65535 1e", "8192 1e", "65535e 2e", "65535e 65535e", "8191 9e"}) {
            row(terms + " 3 | 5", "add(0, 1, 2) add(1, 0, 0)", NO_NUMBER + " " + NO_NUMBER);
        }
    }
}
