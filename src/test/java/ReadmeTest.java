import java.io.IOException;
import java.lang.reflect.InvocationTargetException;
import java.net.URL;
import java.net.URLClassLoader;
import java.nio.charset.StandardCharsets;
import java.nio.file.Files;
import java.nio.file.Path;
import java.util.Set;
import java.util.TreeSet;
import java.util.regex.Matcher;
import java.util.regex.Pattern;
import java.util.stream.Stream;
import javax.tools.JavaCompiler;
import javax.tools.ToolProvider;

/** README.md: its program answers what stands behind each call, its table has all tests. */
public final class ReadmeTest {
    private static final Pattern BLOCK = Pattern.compile("(?s)```java\n(.*?)```");
    private static final Pattern CALL =
            Pattern.compile("(?:(int \\w+) = )?(graph\\.(\\w+)\\(.*\\)); +// (.*)");

    private ReadmeTest() { }

    public static void main(String[] args) throws IOException, ReflectiveOperationException {
        String page = Files.readString(Path.of("README.md"), StandardCharsets.UTF_8);
        program(page);
        table(page);
        Check.end();
    }

    /** Called by the program: the exceptions are told as the page does. */
    public interface Call {
        Object make();
    }

    public static void answers(String line, Call call, String due) {
        String got;
        try {
            got = String.valueOf(call.make());
        } catch (RuntimeException e) {
            got = "throws " + e.getClass().getSimpleName();
        }
        Check.same(line, got, due);
    }

    private static void program(String page)
            throws IOException, ReflectiveOperationException {
        StringBuilder code = new StringBuilder("final class Readme {\n"
                + "    public static void main(String[] args) {\n");
        Set<String> called = new TreeSet<>();
        Matcher block = BLOCK.matcher(page);
        while (block.find()) {
            for (String line : block.group(1).split("\n")) {
                code.append(checked(line, called)).append('\n');
            }
        }
        code.append("    }\n}\n");
        Set<String> all = new TreeSet<>();
        for (var method : GristGraph.class.getMethods()) {
            if (method.getDeclaringClass() == GristGraph.class) {
                all.add(method.getName());
            }
        }
        // How many nodes there are says itself; abort is told of in words.
        all.removeAll(Set.of("nodes", "abort"));
        Check.same("calls that the page shows", called, all);
        run(code.toString());
    }

    private static String checked(String line, Set<String> called) {
        Matcher call = CALL.matcher(line);
        if (!call.matches()) {
            Check.same("a line without an answer", line,
                    "GristGraph graph = new GristGraph();");
            return line;
        }
        called.add(call.group(3));
        String text = "\"" + line.replace("\"", "\\\"") + "\"";
        String due = ", \"" + call.group(4) + "\");";
        if (call.group(1) == null) {
            return "ReadmeTest.answers(" + text + ", () -> " + call.group(2) + due;
        }
        String name = call.group(1).substring("int ".length());
        return call.group(1) + " = " + call.group(2) + ";\n"
                + "ReadmeTest.answers(" + text + ", () -> " + name + due;
    }

    private static void run(String code) throws IOException, ReflectiveOperationException {
        JavaCompiler compiler = ToolProvider.getSystemJavaCompiler();
        if (compiler == null) {
            System.out.println("there is no compiler to try the page's program with");
            return;
        }
        Path folder = Files.createTempDirectory("readme");
        Path file = folder.resolve("Readme.java");
        Files.writeString(file, code);
        int told = compiler.run(null, System.out, System.out, "-cp",
                System.getProperty("java.class.path"), "-d", folder.toString(), file.toString());
        Check.same("the page's program compiles", told, 0);
        if (told == 0) {
            // Its own loader sees the page's class, and the others as they are.
            URL[] places = {folder.toUri().toURL()};
            try (URLClassLoader loader = new URLClassLoader(places,
                    ReadmeTest.class.getClassLoader())) {
                var main = loader.loadClass("Readme").getDeclaredMethod("main", String[].class);
                main.setAccessible(true);
                main.invoke(null, (Object) new String[0]);
            } catch (InvocationTargetException e) {
                Check.same("the page's program", String.valueOf(e.getCause()), "no exception");
            }
        }
        try (Stream<Path> files = Files.list(folder)) {
            for (Path one : (Iterable<Path>) files::iterator) {
                Files.delete(one);
            }
        }
        Files.delete(folder);
    }

    private static void table(String page) throws IOException {
        Set<String> told = new TreeSet<>();
        Matcher row = Pattern.compile("(?m)^\\| `(\\w+)` \\| .+ \\|$").matcher(page);
        while (row.find()) {
            told.add(row.group(1) + ".java");
        }
        Set<String> there = new TreeSet<>();
        try (Stream<Path> files = Files.list(Path.of("src/test/java"))) {
            files.map(file -> file.getFileName().toString())
                    .filter(name -> name.endsWith("Test.java")).forEach(there::add);
        }
        Check.same("tests in the table", told, there);
        Matcher path = Pattern.compile("`(src/[\\w/]+\\.\\w+|\\.ci/run)`").matcher(page);
        int paths = 0;
        while (path.find()) {
            Check.same("there is " + path.group(1), Files.exists(Path.of(path.group(1))), true);
            paths++;
        }
        Check.same("paths were seen", paths >= 2, true);
    }
}
