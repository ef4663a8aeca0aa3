import java.io.IOException;
import java.lang.reflect.InvocationTargetException;
import java.lang.reflect.Method;
import java.net.URL;
import java.net.URLClassLoader;
import java.nio.file.Files;
import java.nio.file.Path;
import java.util.ArrayList;
import java.util.List;
import java.util.Set;
import java.util.TreeSet;
import java.util.regex.Matcher;
import java.util.regex.Pattern;
import java.util.stream.Stream;
import javax.tools.ToolProvider;

/** README.md's examples are compiled as they stand there and run; its table names every test. */
public final class ReadmeTest {
    private static final Tell T = new Tell("ReadmeTest");
    /** A call whose answer stands behind it. */
    private static final Pattern ANSWERED = Pattern.compile("(g\\.(\\w+)\\(.*\\)); +// (-?\\d+|NONE|true|false)\\b.*");
    private static final Pattern JAVA = Pattern.compile("(?s)```java\n(.*?)```");

    private ReadmeTest() { }

    public static void main(String[] args) throws Exception {
        Path root = args.length > 0 ? Path.of(args[0]).toAbsolutePath().getParent().resolve("../../..") : Path.of("");
        String page = Files.readString(root.resolve("README.md"));
        examples(page);
        table(page, root.resolve("src/test/java"));
        T.end();
    }

    /** Called by the examples; an answer that is a boolean and one that is a number are told apart. */
    public static void due(String call, Object got, Object want) {
        T.due(call + " answers " + got + ", the page says " + want, got.equals(want), true);
    }

    private static void examples(String page) throws Exception {
        StringBuilder methods = new StringBuilder();
        StringBuilder run = new StringBuilder();
        int answers = 0;
        Matcher block = JAVA.matcher(page);
        while (block.find()) {
            if (block.group(1).startsWith("static ")) {
                methods.append(block.group(1));
                continue;
            }
            for (String line : block.group(1).split("\n")) {
                Matcher m = ANSWERED.matcher(line);
                if (m.matches()) {
                    answers++;
                    String want = m.group(3).replace("NONE", "FlexGrid.NONE");
                    run.append("ReadmeTest.due(\"").append(m.group(1).replace("\"", "'")).append("\", ")
                        .append(m.group(1)).append(", ").append(want).append(");\n");
                } else {
                    T.due("a line without an answer makes the object: " + line, line.contains("new FlexGrid()"), true);
                    run.append(line).append('\n');
                }
            }
        }
        T.due("there are examples", answers > 30, true);
        runClass("public final class ReadmeExamples {\n" + methods + "public static void run() {\n" + run + "}\n}\n");
    }

    private static void runClass(String source) throws Exception {
        Path work = Files.createTempDirectory("readme");
        try {
            Path file = Files.writeString(work.resolve("ReadmeExamples.java"), source);
            int failed = ToolProvider.getSystemJavaCompiler().run(null, null, null, "-proc:none", "-cp",
                System.getProperty("java.class.path"), "-d", work.toString(), file.toString());
            T.due("the examples compile", failed, 0);
            if (failed == 0) {
                call(work);
            }
        } finally {
            clear(work);
        }
    }

    private static void call(Path work) throws Exception {
        try (URLClassLoader loader = new URLClassLoader(new URL[] {work.toUri().toURL()})) {
            Method run = loader.loadClass("ReadmeExamples").getMethod("run");
            run.invoke(null);
        } catch (InvocationTargetException e) {
            T.due("the examples end, and not by " + e.getCause(), false, true);
        }
    }

    private static void clear(Path work) throws IOException {
        List<Path> files = new ArrayList<>();
        try (Stream<Path> all = Files.list(work)) {
            all.forEach(files::add);
        }
        files.add(work);
        for (Path file : files) {
            Files.delete(file);
        }
    }

    private static void table(String page, Path tests) throws IOException {
        Set<String> told = new TreeSet<>();
        Matcher row = Pattern.compile("(?m)^\\| (\\w+Test) \\|").matcher(page);
        while (row.find()) {
            told.add(row.group(1));
        }
        Set<String> there = new TreeSet<>();
        try (Stream<Path> files = Files.list(tests)) {
            files.map(f -> f.getFileName().toString()).filter(f -> f.endsWith("Test.java"))
                .forEach(f -> there.add(f.substring(0, f.length() - 5)));
        }
        T.due("the table names " + told + ", there are " + there, told.equals(there), true);
    }
}
