/** Counts what is checked and tells what is wrong; a test's main method ends with close(). */
final class Check {
    interface Call {
        Object answer();
    }

    private static long checked = 0;
    private static long wrong = 0;

    private Check() {
    }

    /** The answer is compared as the object that it is boxed to, so that 0.0 and -0.0 are two answers. */
    static void due(String what, Object got, Object want) {
        checked++;
        if (!got.equals(want)) {
            wrong++;
            if (wrong <= 50) {
                System.out.println(what + " answered " + got + ", due is " + want);
            }
        }
    }

    static void holds(String what, boolean isSo) {
        due(what, isSo, true);
    }

    /** Of an exception the class's own name, so that a class below the documented one is told apart. */
    static Object outcome(Call call) {
        try {
            return call.answer();
        } catch (RuntimeException e) {
            return "throws." + e.getClass().getSimpleName();
        }
    }

    static void close() {
        System.out.println(checked + " checks, " + wrong + " wrong");
        if (wrong != 0 || checked == 0) {
            System.exit(1);
        }
    }
}
