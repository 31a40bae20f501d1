import java.io.IOException;
import java.lang.reflect.Method;
import java.lang.reflect.Modifier;
import java.net.URL;
import java.net.URLClassLoader;
import java.nio.file.Files;
import java.nio.file.Path;
import java.util.ArrayList;
import java.util.Comparator;
import java.util.List;
import java.util.Map;
import java.util.TreeMap;
import java.util.regex.Matcher;
import java.util.regex.Pattern;
import java.util.stream.Stream;
import javax.tools.JavaCompiler;
import javax.tools.ToolProvider;

/**
 * README.md: its example compiles as it stands, each call in it answers what is said behind it,
 * and every method of the face and every test is named.
 */
public final class ReadmeTest {
    private static final Checks CHECKS = new Checks();
    private static final Path README = Path.of("README.md");

    // A call, and behind it its answer, a Java expression, or several: the first to the last.
    private static final Pattern TOLD = Pattern.compile(
            " *(flow\\.\\w+\\(.*?\\)); *// ([^: ]+)(?: to ([^: ]+))?: .+");

    // For each line of the example how many times it is to answer, and how many times it did.
    private static final Map<Integer, Long> DUE = new TreeMap<>();
    private static final Map<Integer, Long> ANSWERED = new TreeMap<>();
    private static List<String> example;

    public static void main(String[] args) throws Exception {
        String text = Files.readString(README);
        List<List<String>> examples = blocksOf(text, "java");
        CHECKS.due("README.md: how many examples", examples.size(), 1);
        example = examples.get(0);
        Path folder = Files.createTempDirectory("readme");
        try {
            compileAsItStands(folder);
            answersAsTold(folder);
        } finally {
            remove(folder);
        }
        namesEveryMethod();
        namesEveryTest(text);
        CHECKS.due("README.md: how the tests are run", blocksOf(text, "sh").toString(),
                "[[.ci/run]]");
        CHECKS.finish();
    }

    private static List<List<String>> blocksOf(String text, String language) {
        List<List<String>> blocks = new ArrayList<>();
        Matcher found = Pattern.compile("(?ms)^```" + language + "\n(.*?)\n```$").matcher(text);
        while (found.find()) {
            blocks.add(found.group(1).lines().toList());
        }
        return blocks;
    }

    private static void compileAsItStands(Path folder) throws IOException {
        compile(folder, "Example", example);
    }

    private static void answersAsTold(Path folder) throws Exception {
        List<String> asking = new ArrayList<>();
        for (int line = 0; line < example.size(); line++) {
            asking.add(asking(line));
        }
        if (!compile(folder, "Asking", asking)) {
            return;
        }
        try (URLClassLoader loader = new URLClassLoader(new URL[] {folder.toUri().toURL()})) {
            loader.loadClass("Asking").getMethod("main").invoke(null);
        }
        CHECKS.due("README.md: how many times each line is answered", ANSWERED.toString(),
                DUE.toString());
    }

    /** A line of the example, with its call handed to answered(). */
    private static String asking(int line) {
        String code = example.get(line);
        if (!code.contains("flow.")) {
            return code;
        }
        Matcher told = TOLD.matcher(code);
        boolean tells = told.matches();
        CHECKS.due("README.md tells the answer of: " + code, tells, true);
        if (!tells) {
            return code;
        }
        String due = told.group(2);
        DUE.put(line, 1L);
        if (told.group(3) != null) {
            DUE.put(line, Long.decode(told.group(3)) - Long.decode(due) + 1);
            due += " + ReadmeTest.answersOf(" + line + ")";
        }
        return "ReadmeTest.answered(" + line + ", " + told.group(1) + ", " + due + ");";
    }

    public static long answersOf(int line) {
        return ANSWERED.getOrDefault(line, 0L);
    }

    public static void answered(int line, long got, long due) {
        CHECKS.due("README.md: " + example.get(line), got, due);
        ANSWERED.merge(line, 1L, Long::sum);
    }

    public static void answered(int line, boolean got, boolean due) {
        answered(line, got ? 1 : 0, due ? 1 : 0);
    }

    /** A long whose bytes are told as a text. */
    public static void answered(int line, long got, String due) {
        answered(line, got, Checks.eight(due, 0));
    }

    /** Answers whether a class with these lines in its main method compiles. */
    private static boolean compile(Path folder, String name, List<String> lines)
            throws IOException {
        Path file = folder.resolve(name + ".java");
        Files.writeString(file, "public final class " + name + " {\n"
                + "public static void main() {\n" + String.join("\n", lines) + "\n}\n}\n");
        JavaCompiler compiler = ToolProvider.getSystemJavaCompiler();
        int code = compiler.run(null, null, null, "-cp", System.getProperty("java.class.path"),
                "-d", folder.toString(), file.toString());
        CHECKS.due("README.md's example compiles (" + name + ")", code, 0);
        return code == 0;
    }

    private static void namesEveryMethod() {
        String code = String.join("\n", example);
        for (Method method : ConstantFlow.class.getDeclaredMethods()) {
            if (Modifier.isPublic(method.getModifiers())) {
                CHECKS.due("README.md shows " + method.getName(),
                        code.contains("flow." + method.getName() + "("), true);
            }
        }
    }

    private static void namesEveryTest(String text) throws IOException {
        try (Stream<Path> files = Files.list(Path.of("src", "test", "java"))) {
            for (Path file : files.toList()) {
                String name = file.getFileName().toString().replace(".java", "");
                if (name.endsWith("Test")) {
                    CHECKS.due("README.md names " + name, text.contains("| `" + name + "` |"),
                            true);
                }
            }
        }
    }

    private static void remove(Path folder) throws IOException {
        try (Stream<Path> files = Files.walk(folder)) {
            for (Path file : files.sorted(Comparator.reverseOrder()).toList()) {
                Files.delete(file);
            }
        }
    }
}
