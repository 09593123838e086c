import java.util.ArrayList;
import java.util.List;
import java.util.regex.Matcher;
import java.util.regex.Pattern;

/** Every call with every choice of telling arguments, each on several yards, against the model. */
public final class ExtremesTest {
    private static final String[] YARDS = {"", Rows.ANY, "65535 -65535e 8191 8192 256 257e -0e 1e | 1092*59 1107",
        "8 7 -6e 5 64e -3 2e 65535 | 65535 1e", "255 257 -1e 65528e 65534 0e 1 -65535 | 65535*60"};
    private static final String[] PLACES = {"MIN", "-1", "0", "1", "2", "3", "4", "5", "6", "7", "8", "MAX"};
    private static final String[] NUMBERS = {"MIN", "-2147418113", "-65536", "-65535", "-257", "-256", "-1", "0", "1", "2", "7",
        "8", "9", "255", "256", "257", "511", "512", "513", "1024", "1025", "8191", "8192", "20642", "20643", "41284", "41285",
        "64000", "65279", "65280", "65281", "65534", "65535", "65536", "2147418113", "2147483392", "MAX"};
    private static final String[] TRUTHS = {"true", "false"};
    /** P stands for a place, N for a number, T for a truth. */
    private static final String[] CALLS = {"put(P, N, T, T)", "volume(P)", "kind(P)", "fine(P)", "whole(P)", "coarse(P)",
        "isExact(P)", "bits(P)", "order(P, P)", "grow(P, N)", "sort()", "opposite(P, P)", "eightfold(P, P)", "eighth(P, P)",
        "isNear(P)", "multiply(P, P, P)", "add(P, P, P)", "find(N, T)", "sum(N, N)", "exact(N, N)", "lay(P)", "lift(P)",
        "under(N)", "melt(P)", "upperShare()", "checksum()", "isSound()"};

    private static final Pattern OPEN = Pattern.compile("\\b[PNT]\\b");

    public static void main(String[] args) {
        for (String call : CALLS) {
            for (String told : choices(call)) {
                for (String words : YARDS) {
                    look(words, told);
                }
            }
        }
        Check.close();
    }

    private static List<String> choices(String call) {
        Matcher open = OPEN.matcher(call);
        if (!open.find()) {
            return List.of(call);
        }
        List<String> all = new ArrayList<>();
        for (String word : wordsFor(open.group())) {
            all.addAll(choices(call.substring(0, open.start()) + word + call.substring(open.end())));
        }
        return all;
    }

    private static String[] wordsFor(String letter) {
        return letter.equals("P") ? PLACES : letter.equals("N") ? NUMBERS : TRUTHS;
    }

    private static void look(String words, String call) {
        Cubeyard yard = Yards.of(words);
        Model model = new Model();
        Yards.fill(model, words);
        String calls = call + " checksum()";
        Check.due("(" + words + ") " + calls, Calls.ask(yard, calls), Calls.ask(model, calls));
    }
}
