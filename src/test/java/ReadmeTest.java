import java.io.IOException;
import java.lang.reflect.Method;
import java.nio.file.Files;
import java.nio.file.Path;
import java.util.ArrayList;
import java.util.Arrays;
import java.util.List;
import java.util.TreeSet;
import java.util.regex.Matcher;
import java.util.regex.Pattern;
import java.util.stream.Collectors;

/** README.md: its example prints what it tells, and its calls are the class's, with what they throw. */
public final class ReadmeTest {
    private static final Pattern EXAMPLE = Pattern.compile("```java\n(.*?)```", Pattern.DOTALL);
    /** The answer that is told ends at a colon, behind which the reason stands. */
    private static final Pattern PRINTED = Pattern.compile("System\\.out\\.println\\(.*\\); +// ([^:\n]+)");
    /** A call's item goes on in lines that are set in. */
    private static final Pattern CALL = Pattern.compile("^- `(\\w+ \\w+\\(.*?\\))`(.*(?:\n  .*)*)", Pattern.MULTILINE);
    private static final Pattern EXCEPTION = Pattern.compile("`(\\w+Exception)`");

    public static void main(String[] args) throws IOException, InterruptedException {
        String readme = Files.readString(Path.of("README.md"));
        Path classes = Path.of(args[0]);
        example(readme, classes);
        calls(readme);
        Check.holds("README.md tells the tests' own command", readme.contains("\nbash .ci/run\n"));
        Check.close();
    }

    private static void example(String readme, Path classes) throws IOException, InterruptedException {
        Matcher example = EXAMPLE.matcher(readme);
        String program = example.find() ? example.group(1) : "";
        Check.holds("README.md has an example", !program.isEmpty());
        Check.holds("README.md has no other example", !example.find());
        List<String> told = new ArrayList<>();
        for (String line : program.lines().toList()) {
            Matcher printed = PRINTED.matcher(line);
            boolean isTold = printed.find();
            Check.due("an answer is told in" + line, isTold, line.contains("println"));
            if (isTold) {
                told.add(printed.group(1).strip());
            }
        }
        for (Method method : calls()) {
            Check.holds("the example has " + method.getName(), program.contains("yard." + method.getName() + "("));
        }
        List<String> got = run(program, classes);
        Check.due("how many lines the example prints", got.size(), told.size());
        for (int line = 0; line < Math.min(got.size(), told.size()); line++) {
            Check.due("line " + (line + 1) + " of the example", got.get(line), told.get(line));
        }
    }

    /** Beside the classes, in a folder that .ci/run takes away. */
    private static List<String> run(String program, Path classes) throws IOException, InterruptedException {
        Path folder = Files.createTempDirectory(classes.toAbsolutePath().getParent(), "example");
        Files.writeString(folder.resolve("Example.java"), program);
        Path bin = Path.of(System.getProperty("java.home"), "bin");
        String out = folder.resolve("out").toString();
        String source = folder.resolve("Example.java").toString();
        told(bin.resolve("javac").toString(), "-d", out, "src/main/java/Cubeyard.java", source);
        return told(bin.resolve("java").toString(), "-cp", out, "Example");
    }

    private static List<String> told(String... command) throws IOException, InterruptedException {
        Process process = new ProcessBuilder(command).redirectErrorStream(true).start();
        String text = new String(process.getInputStream().readAllBytes());
        Check.due(String.join(" ", command) + " (" + text + ")", process.waitFor(), 0);
        return text.lines().toList();
    }

    private static void calls(String readme) {
        TreeSet<String> told = new TreeSet<>();
        Matcher call = CALL.matcher(readme);
        while (call.find()) {
            List<String> exceptions = new ArrayList<>();
            Matcher exception = EXCEPTION.matcher(call.group(2));
            while (exception.find()) {
                exceptions.add(exception.group(1));
            }
            told.add(call.group(1).replaceAll(" \\w+(?=[,)])", "") + " throws " + exceptions);
        }
        TreeSet<String> due = new TreeSet<>();
        for (Method method : calls()) {
            String head = method.getReturnType() + " " + method.getName() + "(" + namesOf(method.getParameterTypes()) + ")";
            due.add(head + " throws [" + namesOf(method.getExceptionTypes()) + "]");
        }
        Check.due("the calls of README.md", told.toString(), due.toString());
    }

    private static List<Method> calls() {
        return Arrays.stream(Cubeyard.class.getMethods())
                .filter(method -> method.getDeclaringClass() == Cubeyard.class).toList();
    }

    private static String namesOf(Class<?>[] types) {
        return Arrays.stream(types).map(Class::getSimpleName).collect(Collectors.joining(", "));
    }
}
