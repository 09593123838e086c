import java.util.List;

/** Promises 19 to 21, what the edges of all volumes tell, sentence by sentence. */
public final class EdgesTest extends Rows {
    public static void main(String[] args) {
        find();
        findOfAll();
        sum();
        exact();
        close();
    }

    private static void find() {
        sentence("19: Returns the least count above whose fine edge is not less than a number.");
        row(ANY, "find(1024, false) find(1025, false) find(1290, false) find(1291, false)", "1 2 2 3");
        row(ANY, "find(512, true) find(513, true) find(645, true) find(646, true)", "1 2 2 3");
        row(ANY, "find(40959, false) find(40960, false) find(40961, false)", "63996 64000 64005");
        row(ANY, "find(1, false) find(1, true) find(1023, false) find(511, true)", "1 1 1 1");
        row(ANY, "find(0, false) find(0, true) find(-1, false) find(-1, true)", "0 0 0 0");
        row(ANY, "find(MIN, false) find(MIN, true)", "0 0");
        sentence("19: isEighths: whether eighths are meant, otherwise units");
        row(ANY, "find(1024, true) find(1025, true) find(20642, true) find(20642, false)", "8 9 65531 8192");
        sentence("19: ArithmeticException if there is none");
        row(ANY, "find(41284, false) find(41285, false) find(MAX, false)", "65531 " + NO_NUMBER + " " + NO_NUMBER);
        row(ANY, "find(20642, true) find(20643, true) find(41284, true) find(MAX, true)",
                "65531 " + NO_NUMBER + " " + NO_NUMBER + " " + NO_NUMBER);
    }

    /** Against a plain search, which does not rest on part (5). */
    private static void findOfAll() {
        sentence("19: Returns the least count, for every number.");
        Model model = new Model();
        Cubeyard yard = new Cubeyard();
        for (int fine = -2; fine <= 41286; fine++) {
            if (fine % 200 == 0) {
                yard = new Cubeyard();
            }
            String calls = "find(*, false) find(*, true)".replace("*", "" + fine);
            due(calls, Calls.ask(yard, calls), Calls.ask(model, calls));
        }
    }

    private static void sum() {
        sentence("20: Returns the sum of the fine edges of some counts of units above, one behind the other.");
        row(ANY, "sum(0, 1) sum(1, 1) sum(0, 2) sum(1, 2) sum(0, 10)", "0 1024 1024 2314 15162");
        row(ANY, "sum(7, 2)", "" + (1958 + 2048));
        sentence("20: from: the first count; of none no count is looked at");
        row(ANY, "sum(0, 0) sum(-1, 0) sum(65535, 0) sum(65536, 0) sum(MIN, 0) sum(MAX, 0)", "0 0 0 0 0 0");
        sentence("20: many: how many, 0 to 256; IllegalArgumentException if there is no such number of them");
        row(ANY, "sum(0, 255) sum(0, 256) sum(1, 256)", "1238232 1244725 1251226");
        refusesNumbers("sum");
        sentence("20: IllegalArgumentException if any of the counts is not from 0 to 65535");
        row(ANY, "sum(65535, 1) sum(65534, 2) sum(65280, 256) sum(65281, 255)", "41284 82568 10561942 10520711");
        refusesCounts("sum");
    }

    private static void exact() {
        sentence("21: Returns how many of some counts of eighths above, one behind the other, have exact edges.");
        row(ANY, "exact(0, 1) exact(1, 1) exact(2, 1) exact(0, 2) exact(0, 10)", "1 1 0 2 3");
        row(ANY, "exact(8, 1) exact(2, 6) exact(2, 7) exact(8, 19) exact(8, 20) exact(9, 19)", "1 0 1 1 2 1");
        row(ANY, "exact(63999, 1) exact(64000, 1) exact(64001, 256) exact(63745, 255) exact(63745, 256)", "0 1 0 0 1");
        int all = 0;
        for (int from = 0; from <= 65535; from += 256) {
            all += new Cubeyard().exact(from, 256);
        }
        due("of all", all, 41);
        sentence("21: from: the first count; of none no count is looked at");
        row(ANY, "exact(0, 0) exact(-1, 0) exact(65535, 0) exact(65536, 0) exact(MIN, 0) exact(MAX, 0)", "0 0 0 0 0 0");
        sentence("21: many: how many, 0 to 256; IllegalArgumentException if there is no such number of them");
        row(ANY, "exact(0, 255) exact(0, 256) exact(1, 256) exact(1, 215) exact(1, 216)", "7 7 6 5 6");
        refusesNumbers("exact");
        sentence("21: IllegalArgumentException if any of the counts is not from 0 to 65535");
        row(ANY, "exact(65535, 1) exact(65534, 2) exact(65280, 256) exact(65281, 255)", "0 0 0 0");
        refusesCounts("exact");
    }

    private static void refusesNumbers(String name) {
        for (String many : List.of("-1", "257", "-256", "65536", "MIN", "MAX")) {
            for (String from : List.of("0", "1", "-1", "65535", "65536", "MIN", "MAX")) {
                row(ANY, name + "(" + from + ", " + many + ")", WRONG);
            }
        }
    }

    private static void refusesCounts(String name) {
        for (String told : List.of("-1, 1", "-1, 2", "-1, 256", "-255, 256", "-256, 256", "65536, 1", "65535, 2",
                "65281, 256", "65282, 255", "65536, 256", "MAX, 1", "MAX, 2", "MAX, 256", "2147483392, 256", "MIN, 1",
                "MIN, 256")) {
            row(ANY, name + "(" + told + ")", WRONG);
        }
    }
}
