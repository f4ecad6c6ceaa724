import java.lang.reflect.Method;
import java.lang.reflect.Modifier;
import java.net.URL;
import java.net.URLClassLoader;
import java.nio.file.DirectoryStream;
import java.nio.file.Files;
import java.nio.file.Path;
import java.util.ArrayList;
import java.util.Comparator;
import java.util.List;
import java.util.regex.Matcher;
import java.util.regex.Pattern;
import java.util.stream.Stream;
import javax.tools.ToolProvider;

/** What README.md shows of the class holds: its code is compiled and run, and names all calls and tests. */
public final class ReadmeTest {
    private static final Path README = Path.of("README.md");
    private static final Path TESTS = Path.of("src/test/java");
    /** A call with an answer behind it, as in "int first = vault.keep(); // 0 is its number". */
    private static final Pattern SHOWN = Pattern.compile("(int \\w+ = )?(vault\\.\\w+\\(.*\\)); *// (-?\\d+)\\b.*");
    private static final Pattern UNANSWERED = Pattern.compile("(int \\w+ = )?vault\\.(?!type\\(script).*");
    private static final Check CHECK = new Check("readme");

    private final List<String> calls = new ArrayList<>();
    private final List<Integer> wanted = new ArrayList<>();

    public static void main(String[] args) throws Exception {
        String page = Files.readString(README);
        String use = partOf(page, "## How to use it\n");
        new ReadmeTest().testShownCode(use);
        testAllCallsAreNamed(partOf(use, "### The calls\n"));
        testAllTestsAreNamed(partOf(page, "## How to run the tests\n"));
        CHECK.finish();
    }

    /** What stands behind a heading, up to the next one of no lesser rank. */
    private static String partOf(String page, String heading) {
        int start = page.indexOf(heading);
        CHECK.holds("there is " + heading.trim(), start >= 0);
        String rest = page.substring(Math.max(0, start) + heading.length());
        String rank = heading.substring(0, heading.indexOf(' ') + 1);
        int end = rest.indexOf("\n" + rank);
        return end < 0 ? rest : rest.substring(0, end);
    }

    private void testShownCode(String use) throws Exception {
        String program = programOf(use);
        CHECK.holds("answers are shown", wanted.size() > 20);
        List<?> answers = answersOf(program);
        CHECK.due("number of answers", answers.size(), wanted.size());
        for (int i = 0; i < Math.min(answers.size(), wanted.size()); i++) {
            CHECK.due(calls.get(i), (Integer) answers.get(i), wanted.get(i));
        }
    }

    /** The code that is shown, as a class whose method run() lists the answers of the calls that have one shown. */
    private String programOf(String use) {
        StringBuilder program = new StringBuilder("public final class Shown {\n"
            + "    private static final java.util.List<Integer> ANSWERS = new java.util.ArrayList<>();\n"
            + "    private static int tell(int answer) { ANSWERS.add(answer); return answer; }\n"
            + "    public static java.util.List<Integer> run() {\n");
        for (String line : use.split("\n")) {
            if (line.startsWith("    ")) {
                program.append("    ").append(toldBy(line.strip())).append('\n');
            }
        }
        return program.append("        return ANSWERS;\n    }\n}\n").toString();
    }

    private String toldBy(String line) {
        Matcher shown = SHOWN.matcher(line);
        if (!shown.matches()) {
            CHECK.holds("an answer behind " + line, !UNANSWERED.matcher(line).matches());
            return line;
        }
        calls.add(shown.group(2));
        wanted.add(Integer.valueOf(shown.group(3)));
        String kept = shown.group(1) == null ? "" : shown.group(1);
        return kept + "tell(" + shown.group(2) + ");";
    }

    private static List<?> answersOf(String program) throws Exception {
        Path directory = Files.createTempDirectory("readme");
        try {
            Path source = directory.resolve("Shown.java");
            Files.writeString(source, program);
            int failed = ToolProvider.getSystemJavaCompiler().run(null, null, null, "-d", directory.toString(),
                "-cp", System.getProperty("java.class.path"), source.toString());
            CHECK.due("compiling what is shown", failed, 0);
            return failed == 0 ? run(directory) : List.of();
        } finally {
            remove(directory);
        }
    }

    private static List<?> run(Path directory) throws Exception {
        URL[] places = {directory.toUri().toURL()};
        try (URLClassLoader loader = new URLClassLoader(places, ReadmeTest.class.getClassLoader())) {
            return (List<?>) loader.loadClass("Shown").getMethod("run").invoke(null);
        }
    }

    private static void remove(Path directory) throws Exception {
        try (Stream<Path> found = Files.walk(directory)) {
            for (Path path : found.sorted(Comparator.reverseOrder()).toList()) {
                Files.delete(path);
            }
        }
    }

    private static void testAllCallsAreNamed(String table) {
        for (Method method : StateVault.class.getDeclaredMethods()) {
            if (Modifier.isPublic(method.getModifiers())) {
                Matcher named = Pattern.compile("`" + method.getName() + "\\(([^)]*)\\)`").matcher(table);
                boolean found = named.find();
                CHECK.holds(method.getName() + " is named", found);
                String arguments = found ? named.group(1) : "";
                int number = arguments.isEmpty() ? 0 : arguments.split(",").length;
                CHECK.due("arguments of " + method.getName(), number, method.getParameterCount());
            }
        }
    }

    private static void testAllTestsAreNamed(String part) throws Exception {
        try (DirectoryStream<Path> files = Files.newDirectoryStream(TESTS, "*.java")) {
            for (Path file : files) {
                String name = file.getFileName().toString().replace(".java", "");
                CHECK.holds(name + " is named", part.contains("`" + name + "`"));
            }
        }
    }
}
