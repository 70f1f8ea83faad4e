import java.io.ByteArrayOutputStream;
import java.io.IOException;
import java.io.PrintStream;
import java.lang.reflect.Method;
import java.lang.reflect.Modifier;
import java.net.MalformedURLException;
import java.net.URL;
import java.net.URLClassLoader;
import java.nio.charset.StandardCharsets;
import java.nio.file.Files;
import java.nio.file.Path;
import java.util.ArrayList;
import java.util.List;
import java.util.TreeMap;
import java.util.regex.Matcher;
import java.util.regex.Pattern;
import javax.tools.JavaCompiler;
import javax.tools.ToolProvider;

/** README.md: its program answers what stands behind its calls, its table has all calls, it names every test. */
public final class ReadmeTest {
    private static final Check CHECK = new Check("ReadmeTest");

    private ReadmeTest() {
    }

    public static void main(String[] args) throws IOException, ReflectiveOperationException {
        String page = Files.readString(Path.of("README.md"), StandardCharsets.UTF_8);
        program(page);
        table(page);
        tests(page);
        CHECK.end();
    }

    private static void program(String page) throws IOException, ReflectiveOperationException {
        Matcher block = Pattern.compile("(?s)```java\n(.*?)```").matcher(page);
        boolean isThere = block.find();
        CHECK.same("a program", isThere, true);
        if (!isThere) {
            return;
        }
        String source = block.group(1);
        List<String> due = new ArrayList<>();
        Matcher said = Pattern.compile("(?m)^ {8,}say\\(.*\\);(?: *// ([^:\n]*).*)?$").matcher(source);
        while (said.find()) {
            if (said.group(1) != null) {
                due.add(said.group(1));
            }
        }
        CHECK.same("calls with an answer behind them", due.size() >= 30, true);
        String[] got = run(source).split("\\R");
        CHECK.same("lines that the program says", got.length, due.size());
        for (int i = 0; i < got.length && i < due.size(); i++) {
            CHECK.same("line " + i + " is \"" + got[i] + "\", README.md has \"" + due.get(i) + "\"",
                    got[i].equals(due.get(i)), true);
        }
    }

    private static String run(String source) throws IOException, ReflectiveOperationException {
        Path directory = Files.createTempDirectory("readme");
        Path file = directory.resolve("Example.java");
        try {
            Files.writeString(file, source, StandardCharsets.UTF_8);
            JavaCompiler compiler = ToolProvider.getSystemJavaCompiler();
            int exit = compiler.run(null, null, null, "-encoding", "UTF-8", "-Xlint:all", "-Werror", "-cp",
                    System.getProperty("java.class.path"), "-d", directory.toString(), file.toString());
            CHECK.same("the program can be compiled", exit, 0);
            return exit == 0 ? output(directory) : "";
        } finally {
            Files.deleteIfExists(directory.resolve("Example.class"));
            Files.deleteIfExists(file);
            Files.deleteIfExists(directory);
        }
    }

    private static String output(Path directory) throws IOException, ReflectiveOperationException {
        PrintStream before = System.out;
        ByteArrayOutputStream bytes = new ByteArrayOutputStream();
        try (URLClassLoader loader = new URLClassLoader(new URL[] {url(directory)});
                PrintStream caught = new PrintStream(bytes, true, StandardCharsets.UTF_8)) {
            System.setOut(caught);
            loader.loadClass("Example").getMethod("main", String[].class).invoke(null, (Object) new String[0]);
        } finally {
            System.setOut(before);
        }
        return bytes.toString(StandardCharsets.UTF_8);
    }

    private static URL url(Path directory) throws MalformedURLException {
        return directory.toUri().toURL();
    }

    /** Each call of the face has one row, with as many arguments as it takes. */
    private static void table(String page) {
        TreeMap<String, Integer> rows = new TreeMap<>();
        Matcher row = Pattern.compile("(?m)^\\| `(\\w+)\\(([^)]*)\\)` \\| \\S.* \\|$").matcher(page);
        while (row.find()) {
            int arguments = row.group(2).isEmpty() ? 0 : row.group(2).split(",").length;
            CHECK.same(row.group(1) + " has one row", rows.put(row.group(1), arguments) == null, true);
        }
        int calls = 0;
        for (Method method : ScentCourt.class.getDeclaredMethods()) {
            if (Modifier.isPublic(method.getModifiers())) {
                calls++;
                CHECK.same("arguments of " + method.getName(), rows.getOrDefault(method.getName(), -1),
                        method.getParameterCount());
            }
        }
        CHECK.same("rows of calls", rows.size(), calls);
    }

    private static void tests(String page) throws IOException {
        CHECK.same("how to run the tests", page.contains("```sh\n.ci/run\n```"), true);
        try (var files = Files.list(Path.of("src/test/java"))) {
            for (Path file : (Iterable<Path>) files.sorted()::iterator) {
                String name = file.getFileName().toString().replace(".java", "");
                if (name.endsWith("Test")) {
                    CHECK.same("README.md names " + name, page.contains("- `" + name + "`:"), true);
                }
            }
        }
    }
}
