import java.math.BigInteger;
import java.util.Arrays;
import java.util.List;

/** Promises 27 and 28, sentence by sentence. */
public final class AllTest extends Rows {
    public static void main(String[] args) {
        checksum();
        isSound();
        close();
    }

    private static String sumOf(long... seen) {
        BigInteger sum = BigInteger.valueOf(7);
        for (long each : seen) {
            sum = sum.multiply(BigInteger.valueOf(31)).add(BigInteger.valueOf(each));
        }
        return "" + sum.longValue();
    }

    private static void checksum() {
        sentence("27: Returns 7 at first, then 31 times itself plus each of: for each place ...");
        row("", "checksum()", sumOf(new long[25]));
        row("27 27e -27 -27e 2 -1e 0 65535", "checksum()", sumOf(216, 0, 3072, 27, 1, 1536, -216, 2, -3072, -27, 3, -1536, 16,
                0, 1290, -1, 3, -512, 0, 0, 0, 524280, 0, 41284, 0));
        row("0 0e -0 -0e", "checksum()", sumOf(0, 0, 0, 0, 1, 0, 0, 2, 0, 0, 3, 0, 0, 0, 0, 0, 0, 0, 0, 0, 0, 0, 0, 0, 0));
        sentence("27: How many cubes the tower has, and of each, from the lowest one on, the volume in eighths and the kind.");
        long[] one = new long[27];
        one[24] = 1;
        one[25] = 216;
        row("| 27", "checksum()", sumOf(one));
        long[] three = new long[31];
        System.arraycopy(new long[] {3, 16, 0, 65535, 1, 8, 1}, 0, three, 24, 7);
        row("| 2 65535e 8e", "checksum()", sumOf(three));
        long[] full = new long[145];
        full[24] = 60;
        for (int cube = 0; cube < 60; cube++) {
            full[25 + 2 * cube] = 524280;
        }
        row("| 65535*60", "checksum()", sumOf(full));
        row("| 65535*60", "lift(0) checksum() lift(0) melt(1) checksum()",
                59 * 41284 + " " + sumOf(withoutTop(full)) + " " + 58 * 41284 + " " + NO_NUMBER + " " + sumOf(withoutTwo(full)),
                "65535 | 65535*58");
        sentence("27: A long that goes round.");
        row("65535 65535 65535 65535 65535 65535 65535 65535 | 65535*60", "checksum()", sumOf(withPlaces(full, 524280, 41284)));
        row("-65535 -65535 -65535 -65535 -65535 -65535 -65535 -65535", "checksum()",
                sumOf(withKind(withPlaces(new long[25], -524280, -41284))));
    }

    private static long[] withoutTop(long[] full) {
        long[] seen = Arrays.copyOf(full, full.length - 2);
        seen[0] = 524280;
        seen[2] = 41284;
        seen[24] = 59;
        return seen;
    }

    private static long[] withoutTwo(long[] full) {
        long[] seen = Arrays.copyOf(withoutTop(full), full.length - 4);
        seen[24] = 58;
        return seen;
    }

    private static long[] withPlaces(long[] seen, long volume, long fine) {
        long[] all = seen.clone();
        for (int place = 0; place < 8; place++) {
            all[3 * place] = volume;
            all[3 * place + 2] = fine;
        }
        return all;
    }

    private static long[] withKind(long[] seen) {
        for (int place = 0; place < 8; place++) {
            seen[3 * place + 1] = 2;
        }
        return seen;
    }

    private static void isSound() {
        sentence("28: Returns whether all of this is so.");
        for (String yard : List.of("", ANY, "65535 -65535 65535e -65535e 65534 -65534 65534e -65534e",
                "1e -1e 1 -1 8e -8e 0 -0", "0 -0 0e -0e 0 -0 0e -0e", "8191 8192 65528e -8191 -8192 -65528e 8193 65529e",
                "64000 -64000 63999 -63999 64001 -64001 27 -27", "255 256 257 -255 -256 -257 65535 1e",
                "32767 32768 -32767 -32768 32767e 32768e 32769e -32769e", "5 5 5 5 5 5 5 5", "| 65535*60")) {
            row(yard, "isSound()", "true");
        }
        int count = 1;
        for (int i = 0; i < 300; i++) {
            StringBuilder yard = new StringBuilder();
            for (int place = 0; place < 8; place++) {
                count = (int) (count * 48271L % 65521);
                yard.append(count % 5 == 0 ? "-" : "").append(count >> (i % 16)).append(count % 3 == 0 ? "e " : " ");
            }
            row(yard.toString(), "isSound()", "true");
        }
    }
}
