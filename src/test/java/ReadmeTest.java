import java.io.File;
import java.io.IOException;
import java.lang.reflect.Method;
import java.net.URL;
import java.net.URLClassLoader;
import java.nio.charset.StandardCharsets;
import java.nio.file.Files;
import java.nio.file.Path;
import java.util.ArrayList;
import java.util.List;
import java.util.TreeSet;
import java.util.regex.Matcher;
import java.util.regex.Pattern;
import javax.tools.ToolProvider;

/**
 * What README.md shows of the use of the class: its pieces of Java are put
 * together as one program and run, and what each call answers is compared with
 * what stands behind it.
 */
public final class ReadmeTest {
    private static final Path README = Path.of("README.md");
    private static final Path TESTS = Path.of("src", "test", "java");

    private static final Pattern PIECE = Pattern.compile("^```java\\n(.*?)^```$", Pattern.MULTILINE | Pattern.DOTALL);

    /** A call of x or something printed, and behind it what it answers, perhaps with a reason. */
    private static final Pattern SHOWN = Pattern.compile(
        "(x\\.\\w+\\(.*\\)|System\\.out\\.println\\((.+)\\)); +// (NONE|-?\\d+|throws \\w+)(: .+)?");

    private final List<String> calls = new ArrayList<>();
    private final List<String> due = new ArrayList<>();
    private final StringBuilder methods = new StringBuilder();
    private final StringBuilder program = new StringBuilder();

    public static void main(String[] args) throws IOException, ReflectiveOperationException {
        String text = Files.readString(README, StandardCharsets.UTF_8);
        ReadmeTest readme = new ReadmeTest();
        Matcher piece = PIECE.matcher(text);
        while (piece.find()) {
            readme.take(piece.group(1));
        }
        readme.compare(readme.run());
        readme.wholeFace();
        testsNamed(text);
        Check.end();
    }

    private void take(String piece) {
        StringBuilder into = piece.startsWith("static ") ? methods : program;
        for (String line : piece.split("\n")) {
            Matcher shown = SHOWN.matcher(line);
            if (shown.matches()) {
                String call = shown.group(2) == null ? shown.group(1) : shown.group(2);
                calls.add(call);
                due.add(shown.group(3).equals("NONE") ? String.valueOf(ScanTester.NONE) : shown.group(3));
                into.append(asking(call));
            } else {
                Check.holds("README.md shows no answer that can be read: " + line, !namesAnAnswer(line));
                into.append(line).append('\n');
            }
        }
    }

    /** Whether a line should be compared: a comment, or a call whose answer a reader would look for. */
    private static boolean namesAnAnswer(String line) {
        return line.contains("//") || (line.startsWith("x.") && !line.startsWith("x.chip("));
    }

    private static String asking(String call) {
        String answer = call.startsWith("x.chip(") ? call + "; got.add(\"nothing\");" : "got.add(String.valueOf(" + call + "));";
        return "try { " + answer + " }\n"
            + "catch (RuntimeException e) { got.add(\"throws \" + e.getClass().getSimpleName()); }\n";
    }

    /** What the shown calls answered, in their order. */
    private List<String> run() throws IOException, ReflectiveOperationException {
        List<String> got = new ArrayList<>();
        Path directory = Files.createTempDirectory("readme");
        Path source = directory.resolve("ReadmeRun.java");
        // What is named last is deleted first.
        for (Path made : new Path[] {directory, source, directory.resolve("ReadmeRun.class")}) {
            made.toFile().deleteOnExit();
        }
        Files.writeString(source, "public final class ReadmeRun {\n" + methods
            + "public static void run(java.util.List<String> got) {\n" + program + "}\n}\n");
        String classes = System.getProperty("java.class.path");
        int refused = ToolProvider.getSystemJavaCompiler().run(null, null, null,
            "-cp", classes, "-d", directory.toString(), source.toString());
        Check.same("compiling what README.md shows", refused, 0);
        if (refused == 0) {
            try (URLClassLoader loader = new URLClassLoader(new URL[] {directory.toUri().toURL()})) {
                loader.loadClass("ReadmeRun").getMethod("run", List.class).invoke(null, got);
            }
        }
        return got;
    }

    private void compare(List<String> got) {
        Check.same("answers to what README.md shows", got.size(), due.size());
        for (int k = 0; k < Math.min(got.size(), due.size()); k++) {
            Check.holds("README.md shows " + calls.get(k) + " with " + due.get(k) + ", the program gave " + got.get(k),
                got.get(k).equals(due.get(k)));
        }
    }

    /** Every method of the face has an example. */
    private void wholeFace() {
        String shown = methods.toString() + program;
        for (Method method : ScanTester.class.getMethods()) {
            if (method.getDeclaringClass() == ScanTester.class) {
                Check.holds("README.md does not show " + method.getName(), shown.contains("x." + method.getName() + "("));
            }
        }
    }

    /** The tests that README.md names are those that there are. */
    private static void testsNamed(String text) {
        TreeSet<String> named = new TreeSet<>();
        Matcher name = Pattern.compile("`(\\w+Test)`").matcher(text);
        while (name.find()) {
            named.add(name.group(1) + ".java");
        }
        TreeSet<String> present = new TreeSet<>();
        for (File file : TESTS.toFile().listFiles()) {
            if (file.getName().endsWith("Test.java")) {
                present.add(file.getName());
            }
        }
        Check.holds("README.md names " + named + ", there are " + present, named.equals(present));
    }
}
