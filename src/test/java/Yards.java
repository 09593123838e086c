import java.util.regex.Matcher;
import java.util.regex.Pattern;

/**
 * Yards told in words: the volumes from place 0 on and, behind a bar, those of the tower from its lowest cube on. A
 * volume is a count, with a - ahead of it if it is below and an e behind it if eighths are meant; *n is the same cube
 * n times on the tower. "27 -7e | 1e 2*59" has 27 units at place 0, 7 eighths below at place 1, and a full tower.
 */
final class Yards {
    private static final Pattern VOLUME = Pattern.compile("(-?)(\\d+)(e?)(?:\\*(\\d+))?");

    private Yards() {
    }

    static Cubeyard of(String words) {
        Cubeyard yard = new Cubeyard();
        fill(yard, words);
        return yard;
    }

    /** On a new Cubeyard or Model; at most 129 calls. */
    static void fill(Object yard, String words) {
        String[] parts = words.split("\\|");
        if (parts.length > 1) {
            Matcher volume = VOLUME.matcher(parts[1]);
            while (volume.find()) {
                put(yard, 7, volume);
                int times = volume.group(4) == null ? 1 : Integer.parseInt(volume.group(4));
                Calls.ask(yard, "lay(7) ".repeat(times));
            }
            Calls.ask(yard, "put(7, 0, false, false)");
        }
        Matcher volume = VOLUME.matcher(parts[0]);
        for (int place = 0; volume.find(); place++) {
            put(yard, place, volume);
        }
    }

    private static void put(Object yard, int place, Matcher volume) {
        boolean isEighths = !volume.group(3).isEmpty();
        boolean isBelow = !volume.group(1).isEmpty();
        Calls.ask(yard, "put(" + place + ", " + volume.group(2) + ", " + isEighths + ", " + isBelow + ")");
    }

    /** All that a yard answers; it takes the tower down, and some 300 calls. */
    static String lookOf(Cubeyard yard) {
        StringBuilder looks = new StringBuilder();
        for (int place = 0; place < 8; place++) {
            String each = "volume(*) kind(*) fine(*) whole(*) coarse(*) isExact(*) bits(*) isNear(*)";
            looks.append("place ").append(place).append(": ");
            looks.append(Calls.ask(yard, each.replace("*", "" + place))).append(", order");
            for (int other = place + 1; other < 8; other++) {
                looks.append(' ').append(yard.order(place, other));
            }
            looks.append("; ");
        }
        looks.append("tower: ").append(Calls.ask(yard, "under(MAX) upperShare() checksum()"));
        for (int cubes = yard.under(Integer.MAX_VALUE); cubes > 0; cubes--) {
            looks.append(", ").append(Calls.ask(yard, "lift(7) volume(7) kind(7)"));
        }
        return looks.append(", ").append(Calls.ask(yard, "lift(7)")).toString();
    }
}
