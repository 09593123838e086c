import java.io.IOException;
import java.io.PrintWriter;
import java.io.StringWriter;
import java.nio.file.Files;
import java.nio.file.Path;
import java.util.List;
import java.util.Set;
import java.util.TreeSet;
import java.util.regex.Matcher;
import java.util.regex.Pattern;
import java.util.spi.ToolProvider;

/** The rules of LANGUAGE.md that bytecode shows: the face, the library, the exceptions, and what a run makes. */
public final class LanguageTest {
    private static final Set<String> THROWN = Set.of("IllegalStateException", "IllegalArgumentException",
            "IndexOutOfBoundsException", "ArithmeticException", "NoSuchElementException");
    private static final Pattern HEAD = Pattern.compile("^  (\\S.*?)\\b([\\w$.]+)\\(.*\\).*;$");
    private static final Pattern INVOKED = Pattern.compile("invoke\\w+.*// \\w+ ([\\w$/.\"<>]+):");
    private static final Pattern MADE = Pattern.compile("\\d+: (new|newarray|anewarray|multianewarray)\\b(.*)");

    public static void main(String[] args) throws IOException {
        Path classes = Path.of(args[0]);
        Set<String> privates = new TreeSet<>();
        Set<String> publics = new TreeSet<>();
        try (var files = Files.list(classes)) {
            for (Path file : files.sorted().toList()) {
                if (file.getFileName().toString().matches("Cubeyard(\\$\\w+)?\\.class")) {
                    look(file, privates, publics);
                }
            }
        }
        privates.retainAll(publics);
        privates.remove("Cubeyard");
        Check.due("rule 1: private methods with a public one's name", privates.toString(), "[]");
        Check.due("rule 1: the public methods", publicMethods().toString(), face().toString());
        Check.close();
    }

    private static Set<String> publicMethods() {
        Set<String> names = new TreeSet<>();
        for (var method : Cubeyard.class.getDeclaredMethods()) {
            if (!java.lang.reflect.Modifier.isPrivate(method.getModifiers())) {
                names.add(method.toGenericString());
            }
        }
        return names;
    }

    /** The document's face, as reflection tells it. */
    private static Set<String> face() {
        String place = "throws java.lang.IndexOutOfBoundsException";
        String wrong = "java.lang.IllegalArgumentException";
        String volume = ",java.lang.ArithmeticException";
        String none = ",java.util.NoSuchElementException";
        Set<String> face = new TreeSet<>();
        for (String line : List.of("int put(int,int,boolean,boolean) " + place + "," + wrong, "int volume(int) " + place,
                "int kind(int) " + place, "int fine(int) " + place, "int whole(int) " + place,
                "double coarse(int) " + place, "boolean isExact(int) " + place, "long bits(int) " + place + volume,
                "int order(int,int) " + place, "int grow(int,int) " + place + volume, "int sort()",
                "boolean opposite(int,int) " + place, "boolean eightfold(int,int) " + place + volume,
                "boolean eighth(int,int) " + place + volume, "boolean isNear(int) " + place,
                "boolean multiply(int,int,int) " + place + volume,
                "boolean add(int,int,int) " + place + "," + wrong + volume,
                "int find(int,boolean) throws java.lang.ArithmeticException", "int sum(int,int) throws " + wrong,
                "int exact(int,int) throws " + wrong,
                "int lay(int) " + place + "," + wrong + ",java.lang.IllegalStateException", "int lift(int) " + place + none,
                "int under(int)", "int melt(int) " + place + none + volume, "float upperShare()", "long checksum()",
                "boolean isSound()")) {
            face.add("public " + line.replaceFirst(" (\\w+\\()", " Cubeyard.$1"));
        }
        return face;
    }

    private static void look(Path file, Set<String> privates, Set<String> publics) {
        StringWriter text = new StringWriter();
        PrintWriter out = new PrintWriter(text);
        int code = ToolProvider.findFirst("javap").orElseThrow().run(out, out, "-p", "-c", file.toString());
        Check.due("javap of " + file, code, 0);
        String method = "";
        for (String line : text.toString().lines().toList()) {
            Matcher head = HEAD.matcher(line);
            if (head.matches()) {
                method = head.group(2);
                (line.startsWith("  public") ? publics : privates).add(method);
            }
            Matcher invoked = INVOKED.matcher(line);
            if (invoked.find()) {
                lookAtCall(method, invoked.group(1));
            }
            Matcher made = MADE.matcher(line);
            if (made.find()) {
                lookAtMade(method, made.group(2).replaceAll(".*class ", "").replaceAll(".*/", ""), line);
            }
            Check.holds("rule 6: no catch in " + method, !line.contains("Exception table:"));
        }
    }

    private static void lookAtCall(String method, String called) {
        int dot = called.lastIndexOf('.');
        String owner = dot < 0 ? "Cubeyard" : called.substring(0, dot);
        String simple = owner.substring(owner.lastIndexOf('/') + 1);
        boolean isMaking = called.endsWith("\"<init>\"") && (THROWN.contains(simple) || owner.equals("java/lang/Object"));
        Check.holds("rule 4: " + method + " calls " + called, owner.startsWith("Cubeyard") || isMaking);
    }

    private static void lookAtMade(String method, String type, String line) {
        boolean isConstructor = method.startsWith("Cubeyard");
        Check.holds("rule 12: " + method + " makes in" + line, isConstructor || THROWN.contains(type));
    }
}
