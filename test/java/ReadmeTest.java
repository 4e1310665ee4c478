import java.io.File;
import java.io.IOException;
import java.lang.reflect.InvocationTargetException;
import java.lang.reflect.Method;
import java.lang.reflect.Modifier;
import java.net.URL;
import java.net.URLClassLoader;
import java.nio.file.Files;
import java.nio.file.Path;
import java.util.ArrayList;
import java.util.List;
import java.util.TreeSet;
import java.util.regex.Matcher;
import java.util.regex.Pattern;
import java.util.stream.Stream;
import javax.tools.ToolProvider;

/**
 * README.md, held against the class: its examples are made into a program that is compiled and run,
 * and each must give the answer that stands behind it; each call of the face is among them; each
 * test of the project is named; the commands that run one test alone work.
 */
public final class ReadmeTest {
    private static final Pattern BLOCK = Pattern.compile("(?ms)^```(java|sh)\n(.*?)^```$");
    private static final Pattern MADE = Pattern.compile("SumDispersal (\\w+) = new SumDispersal\\(\\);.*");
    private static final Pattern EXAMPLE =
        Pattern.compile("((\\w+)\\.(\\w+)\\(.*\\)); +// (-?\\d+|true|false|throws \\w+)(:.*)?");
    private static final String HEAD = "public final class ReadmeRun {\n"
        + "  interface Call { Object ask(); }\n"
        + "  static int wrong = 0;\n"
        + "  static void due(String call, Call asked, String due) {\n"
        + "    String got;\n"
        + "    try { got = String.valueOf(asked.ask()); }\n"
        + "    catch (RuntimeException e) { got = \"throws \" + e.getClass().getSimpleName(); }\n"
        + "    if (!got.equals(due)) {\n"
        + "      wrong++; System.out.println(\"README.md: \" + call + \" answers \" + got + \", not \" + due);\n"
        + "    }\n"
        + "  }\n";

    private static int wrong = 0;
    private static int examples = 0;
    private static int commands = 0;
    private static final TreeSet<String> called = new TreeSet<>();

    private static void fail(String what) {
        wrong++;
        System.out.println(what);
    }

    private static List<String> blocks(String page, String language) {
        List<String> found = new ArrayList<>();
        Matcher m = BLOCK.matcher(page);
        while (m.find()) {
            if (m.group(1).equals(language)) {
                found.add(m.group(2));
            }
        }
        return found;
    }

    private static String quoted(String text) {
        return "\"" + text.replace("\\", "\\\\").replace("\"", "\\\"") + "\"";
    }

    /** A block with a method stays as it is; of the others each line is an object made, or a call and its answer. */
    private static String program(List<String> blocks) {
        StringBuilder methods = new StringBuilder();
        StringBuilder lines = new StringBuilder();
        for (String block : blocks) {
            if (block.contains("static ")) {
                methods.append(block);
                continue;
            }
            for (String line : block.split("\n")) {
                lines.append(statement(line)).append("\n");
            }
        }
        return HEAD + methods + "  static int run() {\n" + lines + "    return wrong;\n  }\n}\n";
    }

    private static String statement(String line) {
        if (line.isBlank() || MADE.matcher(line).matches()) {
            return line;
        }
        Matcher m = EXAMPLE.matcher(line);
        if (!m.matches()) {
            fail("README.md: neither an object made nor a call and its answer: " + line);
            return "";
        }
        examples++;
        called.add(m.group(3));
        return "    due(" + quoted(m.group(1)) + ", () -> " + m.group(1) + ", " + quoted(m.group(4)) + ");";
    }

    private static void runExamples(String page) throws IOException, ReflectiveOperationException {
        Path folder = Files.createTempDirectory("readme");
        Path source = folder.resolve("ReadmeRun.java");
        Files.writeString(source, program(blocks(page, "java")));
        int failed = ToolProvider.getSystemJavaCompiler().run(null, null, null, "-cp",
            System.getProperty("java.class.path"), "-d", folder.toString(), source.toString());
        if (failed != 0) {
            fail("README.md: the examples do not compile");
        } else {
            try (URLClassLoader loader = new URLClassLoader(new URL[] {folder.toUri().toURL()})) {
                Method run = loader.loadClass("ReadmeRun").getDeclaredMethod("run");
                run.setAccessible(true);
                wrong += (int) run.invoke(null);
            } catch (InvocationTargetException e) {
                fail("README.md: the examples throw " + e.getCause());
            }
        }
        remove(folder);
    }

    private static void remove(Path folder) throws IOException {
        for (File file : folder.toFile().listFiles()) {
            Files.delete(file.toPath());
        }
        Files.delete(folder);
    }

    private static void eachCallIsShown() {
        for (Method m : SumDispersal.class.getDeclaredMethods()) {
            if (Modifier.isPublic(m.getModifiers()) && !called.contains(m.getName())) {
                fail("README.md: no example of " + m.getName());
            }
        }
    }

    private static void eachTestIsNamed(String page) throws IOException {
        try (Stream<Path> files = Stream.concat(Files.list(Path.of("test/java")), Files.list(Path.of("test/support")))) {
            for (Path file : (Iterable<Path>) files.sorted()::iterator) {
                String name = file.getFileName().toString().replace(".java", "");
                if (!page.contains("`" + name + "`")) {
                    fail("README.md does not name " + file);
                }
            }
        }
    }

    /** All but .ci/run, which is what runs this test. */
    private static void runCommands(String page) throws IOException, InterruptedException {
        boolean tellsAll = false;
        for (String block : blocks(page, "sh")) {
            if (block.strip().equals(".ci/run")) {
                tellsAll = true;
                continue;
            }
            commands++;
            Process process = new ProcessBuilder("sh", "-e", "-c", block).redirectErrorStream(true).start();
            String output = new String(process.getInputStream().readAllBytes());
            if (process.waitFor() != 0) {
                fail("README.md: these commands fail:\n" + block + output);
            }
        }
        if (!tellsAll || commands == 0) {
            fail("README.md does not tell how to run all tests, or one alone");
        }
    }

    public static void main(String[] args) throws Exception {
        String page = Files.readString(Path.of("README.md"));
        runExamples(page);
        eachCallIsShown();
        eachTestIsNamed(page);
        runCommands(page);
        System.out.println(examples + " examples and " + commands + " commands of README.md, " + wrong + " wrong");
        if (wrong != 0) {
            System.exit(1);
        }
    }
}
