import java.lang.reflect.InvocationTargetException;
import java.lang.reflect.Method;
import java.util.ArrayList;
import java.util.List;
import java.util.regex.Matcher;
import java.util.regex.Pattern;

/**
 * Calls told in words, as "put(0, 27, false, false) lay(0)", on a Cubeyard or a Model. MIN and MAX are the least and
 * the greatest int. What they answer is told in words, too; a call that throws answers throws. and the exception's name.
 */
final class Calls {
    private static final Pattern CALL = Pattern.compile("(\\w+)\\(([^)]*)\\)");

    private Calls() {
    }

    static String ask(Object yard, String calls) {
        List<String> answers = new ArrayList<>();
        Matcher call = CALL.matcher(calls);
        while (call.find()) {
            answers.add(askOne(yard, call.group(1), call.group(2)));
        }
        return String.join(" ", answers);
    }

    private static String askOne(Object yard, String name, String arguments) {
        String[] words = arguments.isEmpty() ? new String[0] : arguments.split(", ");
        Object[] told = new Object[words.length];
        for (int i = 0; i < words.length; i++) {
            told[i] = argument(words[i]);
        }
        try {
            return String.valueOf(methodOf(yard, name).invoke(yard, told));
        } catch (InvocationTargetException e) {
            return "throws." + e.getCause().getClass().getSimpleName();
        } catch (IllegalAccessException e) {
            throw new IllegalStateException(e);
        }
    }

    private static Object argument(String word) {
        switch (word) {
            case "true":
                return true;
            case "false":
                return false;
            case "MIN":
                return Integer.MIN_VALUE;
            case "MAX":
                return Integer.MAX_VALUE;
            default:
                return Integer.parseInt(word);
        }
    }

    private static Method methodOf(Object yard, String name) {
        for (Method method : yard.getClass().getDeclaredMethods()) {
            if (method.getName().equals(name)) {
                return method;
            }
        }
        throw new IllegalArgumentException("no call " + name);
    }
}
