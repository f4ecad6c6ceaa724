import java.lang.management.ManagementFactory;
import java.lang.reflect.Field;
import java.lang.reflect.Method;
import java.lang.reflect.Modifier;
import java.nio.file.Files;
import java.nio.file.Path;
import java.util.Arrays;
import java.util.List;
import java.util.Set;
import java.util.TreeSet;
import java.util.regex.Matcher;
import java.util.regex.Pattern;

/** The face of the class, and rules of ../shared/LANGUAGE.md that can be looked up. */
public final class RulesTest {
    private static final Path SOURCE = Path.of("src/main/java/StateVault.java");
    private static final List<String> FACE = List.of(
        "int type(int)", "int clear()", "int play()", "int raise()", "int keep()", "int load(int)",
        "int drop(int,boolean)", "int alter(int,int,int)", "int pack()", "int set(int,int)", "int undo()",
        "int value(int)", "int kept(int,int)", "int entry(int,int,int)", "int read(int,int,int)",
        "int cause(int,int,int)", "int apart(int,int)", "int fork(int,int)", "int nearest()",
        "int count(int)", "long digest()");
    private static final Set<String> CONSTANTS = Set.of("NONE", "BAD", "STATE", "FULL");
    private static final Set<Class<?>> CONSTANT_TYPES = Set.of(
        int.class, long.class, boolean.class, char.class, String.class);
    private static final String FORBIDDEN =
        "\\b(throw|throws|try|catch|finally|synchronized|assert|import|package|native|volatile|protected|float"
        + "|double|Object|System\\.(?!arraycopy)\\w+|\\w+Exact)\\b|->|::|static \\{|\\bhashCode|\\btoString|\\bequals";
    private static final int LONGEST_METHOD = 60;
    private static final Check CHECK = new Check("rules");

    public static void main(String[] args) throws Exception {
        testFace();
        testMembers(StateVault.class);
        for (Class<?> inner : StateVault.class.getDeclaredClasses()) {
            testInner(inner);
            testMembers(inner);
        }
        testWords();
        testLengths();
        testRoom();
        CHECK.finish();
    }

    private static String signature(Method method) {
        StringBuilder written = new StringBuilder(method.getReturnType() + " " + method.getName() + "(");
        for (Class<?> type : method.getParameterTypes()) {
            written.append(written.charAt(written.length() - 1) == '(' ? "" : ",").append(type);
        }
        return written.append(")").toString();
    }

    private static void testFace() {
        Set<String> methods = new TreeSet<>();
        for (Method method : StateVault.class.getDeclaredMethods()) {
            if (!Modifier.isPrivate(method.getModifiers())) {
                methods.add(signature(method));
                CHECK.due("modifiers of " + method, method.getModifiers(), Modifier.PUBLIC);
            }
        }
        CHECK.holds("the methods are " + methods, methods.equals(new TreeSet<>(FACE)));
        CHECK.due("class", StateVault.class.getModifiers(), Modifier.PUBLIC | Modifier.FINAL);
        CHECK.due("constructors", StateVault.class.getDeclaredConstructors().length, 1);
        Set<String> fields = new TreeSet<>();
        for (Field field : StateVault.class.getDeclaredFields()) {
            if (!Modifier.isPrivate(field.getModifiers())) {
                fields.add(field.getName());
            }
        }
        CHECK.holds("the constants are " + fields, fields.equals(new TreeSet<>(CONSTANTS)));
    }

    private static void testInner(Class<?> inner) {
        CHECK.holds(inner + " is static", Modifier.isStatic(inner.getModifiers()));
        CHECK.holds(inner + " is not public", (inner.getModifiers() & (Modifier.PUBLIC | Modifier.PROTECTED)) == 0);
    }

    private static void testMembers(Class<?> type) {
        int fields = 0;
        for (Field field : type.getDeclaredFields()) {
            if (Modifier.isStatic(field.getModifiers())) {
                CHECK.holds(field + " is a constant", Modifier.isFinal(field.getModifiers())
                    && CONSTANT_TYPES.contains(field.getType()));
            } else {
                fields++;
                CHECK.holds(field + " is private", Modifier.isPrivate(field.getModifiers()));
            }
        }
        CHECK.holds(type + " has at most twenty fields", fields <= 20);
        for (Method method : type.getDeclaredMethods()) {
            CHECK.holds(method + " has at most seven parameters", method.getParameterCount() <= 7);
            boolean named = FACE.stream().anyMatch(line -> line.contains(" " + method.getName() + "("));
            CHECK.holds(method + " is of the face or has another name",
                !named || type == StateVault.class && FACE.contains(signature(method)));
        }
    }

    /** The source without its comments and without what stands in quotation marks. */
    private static String bareSource() throws Exception {
        String source = Files.readString(SOURCE);
        return source.replaceAll("(?s)/\\*.*?\\*/", "").replaceAll("//.*", "").replaceAll("\"[^\"]*\"", "\"\"");
    }

    private static void testWords() throws Exception {
        Matcher found = Pattern.compile(FORBIDDEN).matcher(bareSource());
        while (found.find()) {
            CHECK.holds("no '" + found.group() + "' in the source", false);
        }
        for (char sign : Files.readString(SOURCE).toCharArray()) {
            if (sign > 126 || sign < 32 && sign != '\n') {
                CHECK.holds("no sign " + (int) sign + " in the source", false);
            }
        }
    }

    private static void testLengths() throws Exception {
        String name = "";
        int lines = 0;
        for (String line : bareSource().split("\n")) {
            if (line.matches(" +(public|private) .*\\) \\{")) {
                name = line.trim();
                lines = 0;
            }
            lines++;
            CHECK.holds(name + " is short", lines <= LONGEST_METHOD || name.isEmpty());
        }
        CHECK.holds("at most twelve classes", StateVault.class.getDeclaredClasses().length < 12);
    }

    /** The room of a run is counted, so that no call but the constructor may make anything. */
    private static void testRoom() {
        com.sun.management.ThreadMXBean threads =
            (com.sun.management.ThreadMXBean) ManagementFactory.getThreadMXBean();
        long[] made = new long[8];
        for (int i = 0; i < made.length; i++) {
            StateVault x = new StateVault();
            long before = threads.getThreadAllocatedBytes(Thread.currentThread().getId());
            long answers = useAll(x);
            made[i] = threads.getThreadAllocatedBytes(Thread.currentThread().getId()) - before;
            CHECK.holds("something was answered", answers != 0);
        }
        Arrays.sort(made);
        // The first round may load what the measuring needs; the least of all is what the calls make.
        CHECK.due("bytes of objects that calls make", made[0], 0);
    }

    private static long useAll(StateVault x) {
        long answers = 0;
        for (int i = 0; i < 8; i++) {
            answers += x.type("add 1 2;".charAt(i));
        }
        for (int i = 0; i < 24; i++) {
            answers += x.play() + x.keep() + x.load(i / 2) + x.alter(i, 0, i) + x.drop(i - 9, i % 2 == 0);
            answers += x.pack() + x.set(0, 1 + i % 8) + x.value(i) + x.kept(i, 5) + x.entry(i, 0, 1);
            answers += x.read(i, 0, 1) + x.cause(i, 0, 1) + x.apart(i, i - 1) + x.fork(i, i - 1);
            answers += x.nearest() + x.count(5) + x.digest() + (i % 5 == 0 ? x.undo() + x.raise() : 0);
        }
        return answers + x.clear();
    }
}
