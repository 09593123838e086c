import java.util.List;

/**
 * A test in rows, under the sentences of the document that they are for. A row tells a yard (as Yards does), calls on
 * it and what they answer (as Calls does), and the yard that is left. Each row has an object of its own, so that it
 * stays below 512 calls.
 */
abstract class Rows {
    static final String NO_PLACE = "throws.IndexOutOfBoundsException";
    static final String WRONG = "throws.IllegalArgumentException";
    static final String NO_NUMBER = "throws.ArithmeticException";
    static final String IS_FULL = "throws.IllegalStateException";
    static final String IS_EMPTY = "throws.NoSuchElementException";

    /** All places differ, and so do the cubes of the tower: no change stays unseen. */
    static final String ANY = "27 -27e 2 -7e -0e -65535 65535e -0 | 27 65535e 3e";

    private static String sentence = "";
    private static int rowsOfSentence = 1;

    static void sentence(String words) {
        Check.holds("\"" + sentence + "\" has rows", rowsOfSentence > 0);
        sentence = words;
        rowsOfSentence = 0;
    }

    static void row(String start, String calls, String answers, String end) {
        Cubeyard yard = Yards.of(start);
        due("(" + start + ") " + calls, Calls.ask(yard, calls), answers);
        due("(" + start + ") " + calls + " leaves (" + end + ")", Yards.lookOf(yard), Yards.lookOf(Yards.of(end)));
    }

    /** The calls change nothing. */
    static void row(String start, String calls, String answers) {
        row(start, calls, answers, start);
    }

    /** Every number that is no place stands for the star of a call. */
    static void noPlaces(String call) {
        for (String place : List.of("-1", "8", "MIN", "MAX")) {
            row(ANY, call.replace("*", place), NO_PLACE);
        }
    }

    /** What does not fit a row. */
    static void due(String what, Object got, Object want) {
        rowsOfSentence++;
        Check.due("\"" + sentence + "\": " + what, got, want);
    }

    static void close() {
        sentence("");
        Check.close();
    }
}
