/** The sentences of "What it is", of the theorem and of "Terms" that name a boundary. */
public final class TermsTest extends Rows {
    /** Each call on a yard with 27 units at place 0 and on the tower, and what it answers. */
    private static final String[][] LAST_CALLS = {{"put(1, 65535, true, true)", "-20642"}, {"volume(0)", "216"},
        {"kind(0)", "0"}, {"fine(0)", "3072"}, {"whole(0)", "3"}, {"coarse(0)", "3.0"}, {"isExact(0)", "true"},
        {"bits(0)", "4613937818241073152"}, {"order(0, 1)", "1"}, {"grow(0, 37)", "1024"}, {"sort()", "8"},
        {"opposite(0, 1)", "true"}, {"eightfold(0, 1)", "true"}, {"eighth(0, 1)", "true"}, {"isNear(0)", "true"},
        {"multiply(0, 0, 1)", "true"}, {"add(0, 0, 1)", "true"}, {"find(3073, false)", "28"}, {"sum(27, 1)", "3072"},
        {"exact(27, 1)", "1"}, {"lay(0)", "6144"}, {"lift(1)", "0"}, {"under(3072)", "1"}, {"melt(1)", "0"},
        {"upperShare()", "1.0"}, {"isSound()", "true"}, {"put(1, 65536, true, true)", WRONG}, {"volume(8)", NO_PLACE}};
    private static final String[] KEEPING_CALLS = {"isSound()", "find(41284, false)", "sum(65280, 256)", "exact(0, 256)",
        "lift(-1)", "put(0, 65536, true, true)", "multiply(0, 0, 8)", "checksum()", "add(0, 1, 2)", "grow(0, 0)"};

    public static void main(String[] args) {
        manyCalls();
        theoremOfOne();
        theoremOfTwo();
        volumes();
        reducedVolumes();
        yard();
        samePlaces();
        tower();
        changesNothing();
        firstException();
        close();
    }

    private static void manyCalls() {
        sentence("An object is used for at most 512 calls after it has been made.");
        for (String[] last : LAST_CALLS) {
            Cubeyard yard = Yards.of("27");
            Calls.ask(yard, "lay(0)");
            for (int call = 3; call <= 511; call++) {
                Calls.ask(yard, KEEPING_CALLS[call % KEEPING_CALLS.length]);
            }
            due("the 512th call, " + last[0], Calls.ask(yard, last[0]), last[1]);
        }
        Cubeyard grown = new Cubeyard();
        Calls.ask(grown, "grow(0, 1) ".repeat(511));
        due("511 steps", grown.volume(0), 8 * 511);
        Cubeyard built = Yards.of("1");
        for (int round = 0; round < 4; round++) {
            Calls.ask(built, "lay(0) ".repeat(59));
            due("the 60th of round " + round, Calls.ask(built, "lay(0) lay(0)"), 60 * 1024 + " " + IS_FULL);
            Calls.ask(built, "lift(1) ".repeat(59));
            due("the last of round " + round, Calls.ask(built, "lift(1) lift(1)"), "0 " + IS_EMPTY);
        }
    }

    private static void theoremOfOne() {
        sentence("(1) cbrt(-x) is -cbrt(x), bit by bit, also where x is 0.");
        row("0", "opposite(0, 1) bits(0) bits(1)", "true 0 -9223372036854775808", "0 -0");
        row("-0e", "opposite(0, 1) bits(0) bits(1)", "true -9223372036854775808 0", "-0e 0e");
        row("1e", "opposite(0, 1) bits(0) bits(1)", "true 4602678819172646912 -4620693217682128896", "1e -1e");
        row("-64000", "opposite(0, 1) bits(0) bits(1)", "true -4592545720011063296 4630826316843712512", "-64000 64000");
        row("65535", "opposite(0, 1) isNear(0) isNear(1)", "true true true", "65535 -65535");
        sentence("(2) If 8 x is a volume too, cbrt(8 x) is twice cbrt(x).");
        row("8191", "eightfold(0, 1) isSound()", "true true", "8191 65528");
        row("8192", "eightfold(0, 1) isSound()", NO_NUMBER + " true");
        row("-65535e", "eightfold(0, 1) isSound()", "true true", "-65535e -65535");
        sentence("(3) Let x be above 0: x lies between the cubes of (m - 1) and of (m + 1) times 2 to the power 3 k.");
        row("1e 1 65535e 65535 7e 9e", "isNear(0) isNear(1) isNear(2) isNear(3) isNear(4) isNear(5)",
                "true true true true true true");
        sentence("(4) The cube of a whole number, if it is a volume, gives that whole number exactly.");
        for (int whole = 0; whole <= 40; whole++) {
            int cube = whole * whole * whole;
            row("" + cube, "whole(0) coarse(0) bits(0)", whole + " " + (double) whole + " " + Double.doubleToLongBits(whole));
            row("-" + cube, "whole(0) bits(0)", -whole + " " + Double.doubleToLongBits(-(double) whole));
            if (whole <= 20) {
                row(8 * cube + "e", "whole(0) bits(0)", whole + " " + Double.doubleToLongBits(whole));
            }
        }
        row("5", "put(0, 68921, false, false) put(0, 74088, true, false)", WRONG + " " + WRONG);
        sentence("(8) For x not below 0, f cubed is at most 2 to the power 30 times x, and f + 1 cubed is more.");
        for (int count = 0; count <= 65535; count++) {
            Cubeyard yard = new Cubeyard();
            for (int kind = 0; kind < 2; kind++) {
                long fine = yard.put(0, count, kind == 1, false);
                long volume = (long) yard.volume(0) << 27;
                boolean isGreatest = fine * fine * fine <= volume && (fine + 1) * (fine + 1) * (fine + 1) > volume;
                due(count + " of kind " + kind, isGreatest, true);
            }
        }
    }

    private static void theoremOfTwo() {
        sentence("(5) If x is less than y, cbrt(x) is less than cbrt(y).");
        String beside = "order(0, 1) order(1, 0)";
        for (String lessAndMore : new String[] {"65534 65535", "65534e 65535e", "-65535 -65534", "-65535e -65534e",
            "0 1e", "-0 1e", "-1e 0", "-1e -0e", "-1e 1e", "-65535 65535", "8191 65529e", "65527e 8191", "65535e 8192",
            "63999 64000", "64000 64001"}) {
            row(lessAndMore, beside, "-1 1");
        }
        for (String same : new String[] {"0 -0", "0e -0", "8191 65528e", "-1 -8e", "65535 65535"}) {
            row(same, beside, "0 0");
        }
        sentence("(6) If x y is a volume too, the product of the edges is near to cbrt(x y), or both are 0.");
        row("255 257", "multiply(0, 1, 2) isSound()", "true true", "255 257 65535");
        row("256 -256", "multiply(0, 1, 2) isSound()", NO_NUMBER + " true");
        row("65535 -0e", "multiply(0, 1, 2) isSound()", "true true", "65535 -0e -0");
        row("65535 1e", "multiply(0, 1, 2) isSound()", "true true", "65535 1e 65535e");
        sentence("(7) If x and y are above 0 and x + y is a volume, cbrt(x + y) is less than the sum.");
        row("65534 1", "add(0, 1, 2) isSound()", "true true", "65534 1 65535");
        row("65535 1", "add(0, 1, 2) isSound()", NO_NUMBER + " true");
        row("1e 1e", "add(0, 1, 2) isSound()", "true true", "1e 1e 2e");
        row("1e 0 -1e", "add(0, 1, 2) add(0, 2, 1) isSound()", WRONG + " " + WRONG + " true");
    }

    private static void volumes() {
        sentence("A volume is a COUNT, from 0 to 65535, of units or of eighths of a unit, and is above or below.");
        for (String kind : new String[] {"false, false", "true, false", "false, true", "true, true"}) {
            String e = kind.startsWith("true") ? "e" : "";
            String sign = kind.endsWith("true") ? "-" : "";
            row("5", "put(0, 65536, " + kind + ") put(0, -1, " + kind + ")", WRONG + " " + WRONG);
            row(sign + "65535" + e, "grow(0, 1)", NO_NUMBER);
            row(sign + "65534" + e, "grow(0, 1)", "0", sign + "65535" + e);
            row(sign + "0" + e, "grow(0, -1)", NO_NUMBER);
            row(sign + "1" + e, "grow(0, -1)", e.isEmpty() ? "-1024" : "-512", sign + "0" + e);
        }
        sentence("Above it is so much, below it is so much less than 0.");
        row("65535 65535e -65535 -65535e 1e -1e", "volume(0) volume(1) volume(2) volume(3) volume(4) volume(5)",
                "524280 65535 -524280 -65535 1 -1");
        sentence("0 below is the double -0.0; it is as great as 0 above.");
        row("0 0e -0 -0e", "bits(0) bits(1) bits(2) bits(3)", "0 0 -9223372036854775808 -9223372036854775808");
        row("0 0e -0 -0e", "order(0, 2) order(2, 0) order(1, 3) order(3, 0) order(2, 1)", "0 0 0 0 0");
        row("0 -0 0e -0e", "sort()", "0");
        row("-0 0 -1e -0e 1e 0e 0 0", "sort() kind(1) kind(2) kind(3) kind(4)", "7 2 0 3 1", "-1e -0 0 -0e 0e 0 0 1e");
        row("-0 -0e", "volume(0) volume(1) fine(0) coarse(1) whole(0)", "0 0 0 0.0 0");
        sentence("The same number told in units and in eighths is the same volume, but it is kept as it was told.");
        row("8191 65528e", "volume(0) volume(1) order(0, 1) fine(0) fine(1)", "65528 65528 0 20641 20641");
        row("8191 65528e -1 -8e", "kind(0) kind(1) kind(2) kind(3)", "0 1 2 3");
        row("8e", "lay(0) lift(1) kind(0) kind(1)", "1024 0 1 1", "8e 8e");
        row("8e 0e", "grow(0, 0) grow(1, 8) opposite(0, 0) opposite(0, 0)", "0 1024 true true", "8e 8e");
        row("8e 1", "sort()", "8", "0 0 0 0 0 0 8e 1");
    }

    private static void reducedVolumes() {
        sentence("To REDUCE a volume is to tell it in units if it is a whole number, otherwise in eighths.");
        row("1 8e", "multiply(0, 1, 1) kind(1)", "true 0", "1 1");
        row("1 7e", "multiply(0, 1, 1) kind(1)", "true 1", "1 7e");
        row("1 9e", "multiply(0, 1, 1) kind(1)", "true 1", "1 9e");
        row("1 0e", "multiply(0, 1, 1) kind(1)", "true 0", "1 0");
        row("1 -0e", "multiply(0, 1, 1) kind(1)", "true 2", "1 -0");
        row("1 -65528e", "multiply(0, 1, 1) kind(1)", "true 2", "1 -8191");
        row("1 -65535e", "multiply(0, 1, 1) kind(1)", "true 3", "1 -65535e");
        row("4e 3e", "add(0, 1, 0) kind(0)", "true 1", "7e 3e");
        row("4e", "add(0, 0, 0) kind(0)", "true 0", "1");
        row("4e 5e", "add(0, 1, 0) kind(0)", "true 1", "9e 5e");
        row("| 16e", "melt(0) kind(0)", "0 0", "2");
        row("| 16e 1e", "melt(0) kind(0)", (1290 + 512 - 1316) + " 1", "17e");
        sentence("If its count is above 65535 then, it is no volume.");
        row("255 257", "multiply(0, 1, 2)", "true", "255 257 65535");
        row("256", "multiply(0, 0, 2)", NO_NUMBER);
        row("5 13107e", "multiply(0, 1, 2)", "true", "5 13107e 65535e");
        row("2 32769e", "multiply(0, 1, 2)", NO_NUMBER);
        row("2 32768e", "multiply(0, 1, 2)", "true", "2 32768e 8192");
        row("65534 1", "add(0, 1, 2)", "true", "65534 1 65535");
        row("65535 1", "add(0, 1, 2)", NO_NUMBER);
        row("65534e 1e", "add(0, 1, 2)", "true", "65534e 1e 65535e");
        row("65535e 1e", "add(0, 1, 2)", "true", "65535e 1e 8192");
        row("65535e 2e", "add(0, 1, 2)", NO_NUMBER);
        row("| 65534 1", "melt(0)", "1024", "65535");
        row("| 65535 1", "melt(0)", NO_NUMBER);
        row("| 65533e 2e", "melt(0)", "645", "65535e");
        row("| 65535e 2e", "melt(0)", NO_NUMBER);
    }

    private static void yard() {
        sentence("The yard has the places 0 to 7, each with a cube: its volume, 0 units above at first, and its edge.");
        row("", "volume(0) volume(7) kind(0) kind(7) bits(0) bits(7)", "0 0 0 0 0 0", "0 0 0 0 0 0 0 0");
        row("1 2 3 4 5 6 7 8", "fine(0) fine(1) fine(2) fine(3) fine(4) fine(5) fine(6) fine(7)",
                "1024 1290 1476 1625 1751 1860 1958 2048");
        row("1 2 3 4 5 6 7 8", "fine(-1) fine(8)", NO_PLACE + " " + NO_PLACE);
        sentence("The FINE edge is the edge times 1024, rounded towards 0, a whole number with the edge's sign.");
        row("1e 2e 7e 8e 9e 26 27 28", "fine(0) fine(1) fine(2) fine(3) fine(4) fine(5) fine(6) fine(7)",
                "512 645 979 1024 1065 3033 3072 3109");
        row("-1e -2e -7e -8e -9e -26 -27 -28", "fine(0) fine(1) fine(2) fine(3) fine(4) fine(5) fine(6) fine(7)",
                "-512 -645 -979 -1024 -1065 -3033 -3072 -3109");
        row("0 -0e 65535 -65535 65535e -65535e", "fine(0) fine(1) fine(2) fine(3) fine(4) fine(5)",
                "0 0 41284 -41284 20642 -20642");
        sentence("An edge is EXACT if it is a whole number of halves.");
        row("0 -0e 1e -1e 27e 64000 -64000 59319e", "isExact(0) isExact(1) isExact(2) isExact(3) isExact(4) isExact(5)"
                + " isExact(6) isExact(7)", "true true true true true true true true");
        row("2e -2e 26e 28e 63999 -64001 59318e 59320e", "isExact(0) isExact(1) isExact(2) isExact(3) isExact(4)"
                + " isExact(5) isExact(6) isExact(7)", "false false false false false false false false");
    }

    private static void samePlaces() {
        sentence("Places that are told can be the same ones; all is read ahead of what is written.");
        row("27e 2", "order(0, 0) order(1, 1)", "0 0");
        row("27e 2", "opposite(0, 0)", "true", "-27e 2");
        row("27e 2", "eightfold(0, 0) eightfold(0, 0)", "true true", "216 2");
        row("27e 2", "eighth(1, 1) kind(1)", "true 1", "27e 2e");
        row("64e 2", "eighth(0, 0) eighth(0, 0)", "true true", "1e 2");
        row("3 5", "multiply(0, 0, 0)", "true", "9 5");
        row("3 5", "multiply(0, 0, 1)", "true", "3 9");
        row("3 -5", "multiply(0, 1, 0)", "true", "-15 -5");
        row("3 -5", "multiply(0, 1, 1)", "true", "3 -15");
        row("3 -5", "multiply(1, 1, 1)", "true", "3 25");
        row("3 5", "add(0, 0, 0)", "true", "6 5");
        row("3 5", "add(0, 0, 1)", "true", "3 6");
        row("3 5", "add(0, 1, 0)", "true", "8 5");
        row("3 5", "add(0, 1, 1)", "true", "3 8");
        row("3 5", "add(1, 0, 1)", "true", "3 8");
    }

    private static void tower() {
        sentence("The tower has at most 60 cubes one above the other, none at first.");
        row("", "under(MAX) lift(0)", "0 " + IS_EMPTY, "0 0 0 0 0 0 0 0");
        row("1 | 27*58", "lay(0) lay(0) lay(0) under(MAX)", 58 * 3072 + 1024 + " " + (58 * 3072 + 2048) + " " + IS_FULL + " 60",
                "1 | 27*58 1*2");
        row("1 | 27*60", "lay(0)", IS_FULL);
        sentence("Only cubes above, whose count is not 0, are laid on it.");
        row("1e 1 65535e 65535", "lay(0) lay(1) lay(2) lay(3)", "512 1536 22178 63462",
                "1e 1 65535e 65535 | 1e 1 65535e 65535");
        row("0 0e -0 -0e -1e -1 -65535e -65535 | 27", "lay(0) lay(1) lay(2) lay(3) lay(4) lay(5) lay(6) lay(7)",
                (WRONG + " ").repeat(8).trim());
        sentence("Its height is the sum of their fine edges.");
        row("2 | 2 2", "lay(0) lift(1) lift(1) lift(1)", "3870 2580 1290 0", "2 2");
        row("65535 | 65535*59", "lay(0)", "" + 60 * 41284, "65535 | 65535*60");
    }

    private static void changesNothing() {
        sentence("A method that throws an exception changes nothing.");
        for (String call : new String[] {"put(0, 65536, false, false)", "put(0, -1, true, true)", "grow(0, 65509)",
            "grow(1, -28)", "eightfold(5, 0)", "eighth(1, 0)", "multiply(5, 5, 0)", "multiply(1, 1, 2)", "add(5, 0, 2)",
            "add(0, 4, 2)", "add(6, 2, 0)", "bits(2)", "find(41285, false)", "sum(65281, 256)", "exact(-1, 1)", "lay(1)",
            "lay(4)", "melt(0)"}) {
            String end = call.startsWith("melt") ? ANY + " 65535*50" : ANY;
            String exception = call.matches("put.*|add\\([50].*|sum.*|exact.*|lay.*") ? WRONG : NO_NUMBER;
            row(end, call, exception);
            row(end, (call + " ").repeat(3), (exception + " ").repeat(3).trim());
        }
        row("27 -27e", "lift(0) melt(0)", IS_EMPTY + " " + IS_EMPTY);
        row("27 -27e | 2 65535e*59", "lay(0)", IS_FULL);
    }

    private static void firstException() {
        sentence("If several exceptions apply, the one that is documented first is thrown.");
        for (String place : new String[] {"-1", "8"}) {
            row(ANY, "put(" + place + ", 65536, false, false) put(" + place + ", -1, true, true)", NO_PLACE + " " + NO_PLACE);
            row(ANY, "bits(" + place + ")", NO_PLACE);
            row(ANY, "grow(" + place + ", MAX) grow(" + place + ", MIN)", NO_PLACE + " " + NO_PLACE);
            row(ANY, "eightfold(5, " + place + ")", NO_PLACE);
            row(ANY, "eighth(1, " + place + ")", NO_PLACE);
            row(ANY, "multiply(5, 5, " + place + ") multiply(1, 1, " + place + ")", NO_PLACE + " " + NO_PLACE);
            row(ANY, "multiply(" + place + ", 5, 0) multiply(5, " + place + ", 0)", NO_PLACE + " " + NO_PLACE);
            row(ANY, "add(5, 4, " + place + ") add(4, " + place + ", 0)", NO_PLACE + " " + NO_PLACE);
            row(ANY, "add(" + place + ", 7, 0)", NO_PLACE);
            row("65535 65535", "add(0, 1, " + place + ")", NO_PLACE);
            row("27 | 2*60", "lay(" + place + ")", NO_PLACE);
            row("27", "lift(" + place + ") melt(" + place + ")", NO_PLACE + " " + NO_PLACE);
            row("27 | 65535*2", "melt(" + place + ")", NO_PLACE);
        }
        row("65535 -65535", "add(0, 1, 2) add(1, 0, 2) add(1, 1, 2)", WRONG + " " + WRONG + " " + WRONG);
        row("0 -1e | 2*60", "lay(0) lay(1)", WRONG + " " + WRONG);
    }
}
