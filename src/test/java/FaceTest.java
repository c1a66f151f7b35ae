import java.io.IOException;
import java.lang.reflect.Constructor;
import java.lang.reflect.Method;
import java.lang.reflect.Modifier;
import java.nio.charset.StandardCharsets;
import java.nio.file.Files;
import java.nio.file.Path;
import java.util.ArrayList;
import java.util.Arrays;
import java.util.List;
import java.util.stream.Collectors;

/**
 * "The public face": the code that the document shows, call by call, with its parameters and the
 * exceptions that it names, their order too, and the headings that stand ahead of the calls.
 */
public final class FaceTest {
    private FaceTest() { }

    public static void main(String[] args) throws IOException {
        if (!Files.exists(Path.of("../shared/DOC.md"))) {
            System.out.println("there is no ../shared/DOC.md to compare with");
            return;
        }
        List<String> due = due();
        Check.same("calls of the document", due.size(), 41);
        Check.same("the constructor", constructors(), List.of("GristGraph()"));
        Check.same("the calls", methods(), due.stream()
                .filter(line -> !line.startsWith("GristGraph(")).sorted()
                .collect(Collectors.toList()));
        Check.same("no fields", GristGraph.class.getFields().length, 0);
        Check.same("of the class", Modifier.toString(GristGraph.class.getModifiers()),
                "public final");
        Check.same("of no other class", GristGraph.class.getSuperclass(), Object.class);
        Check.same("of no interface", GristGraph.class.getInterfaces().length, 0);
        Check.same("of no package", GristGraph.class.getPackageName(), "");
        inOrder(due);
        names(due);
        headings();
        Check.end();
    }

    private static List<String> lines(String file) throws IOException {
        return Files.readAllLines(Path.of(file), StandardCharsets.UTF_8);
    }

    /** The calls as the document writes them, without "public" and the semicolon. */
    private static List<String> due() throws IOException {
        List<String> due = new ArrayList<>();
        for (String line : lines("../shared/DOC.md")) {
            if (line.startsWith("    public ")) {
                due.add(line.substring("    public ".length(), line.indexOf(';')));
            }
        }
        return due;
    }

    private static List<String> constructors() {
        List<String> found = new ArrayList<>();
        for (Constructor<?> one : GristGraph.class.getConstructors()) {
            String thrown = Arrays.toString(one.getExceptionTypes());
            found.add(one.toString().substring("public ".length())
                    + (thrown.equals("[]") ? "" : " throws " + thrown));
        }
        return found;
    }

    private static List<String> methods() throws IOException {
        List<String> found = new ArrayList<>();
        for (Method method : GristGraph.class.getDeclaredMethods()) {
            if (Modifier.isPublic(method.getModifiers())) {
                Check.same("of " + method.getName(), Modifier.toString(method.getModifiers()),
                        "public");
                found.add(written(method));
            }
        }
        found.sort(null);
        return found;
    }

    /** With the names of the parameters from the document, which a class file does not keep. */
    private static String written(Method method) throws IOException {
        String head = method.getReturnType() + " " + method.getName() + "(";
        String names = due().stream().filter(line -> line.startsWith(head)).findFirst().orElse("()");
        String[] parts = names.substring(names.indexOf('(') + 1, names.indexOf(')')).split(", ");
        List<String> parameters = new ArrayList<>();
        Class<?>[] types = method.getParameterTypes();
        for (int i = 0; i < types.length; i++) {
            String part = i < parts.length ? parts[i] : "";
            parameters.add(types[i] + part.substring(Math.max(0, part.indexOf(' '))));
        }
        String thrown = Arrays.stream(method.getExceptionTypes()).map(Class::getSimpleName)
                .collect(Collectors.joining(", "));
        return head + String.join(", ", parameters) + ")"
                + (thrown.isEmpty() ? "" : " throws " + thrown);
    }

    private static String source() throws IOException {
        return String.join(" ", lines("src/main/java/GristGraph.java")).replaceAll("\\s+", " ");
    }

    /** The source has the calls in the document's words and order, its parameters' names too. */
    private static void inOrder(List<String> due) throws IOException {
        String source = source();
        int from = 0;
        for (String call : due) {
            int at = source.indexOf("public " + call + " {", from);
            Check.same("in its place: " + call, at >= from, true);
            from = Math.max(from, at);
        }
    }

    /** Each promise tells of a call of the face in the same words. */
    private static void names(List<String> due) throws IOException {
        List<String> told = new ArrayList<>();
        for (String line : lines("../shared/DOC.md")) {
            if (line.matches("`[^`]*\\(.*`: .*")) {
                told.add(line.substring(1, line.indexOf("`: ")));
            }
        }
        List<String> sorted = new ArrayList<>(due);
        sorted.sort(null);
        told.sort(null);
        Check.same("each call has its promise", told, sorted);
    }

    /** "Ahead of the calls ... the interface says: ---- the graph." */
    private static void headings() throws IOException {
        String source = source();
        int seen = 0;
        for (String line : lines("../shared/DOC.md")) {
            if (line.startsWith("Ahead of the calls ")) {
                String heading = line.substring(line.indexOf("----"), line.length() - 1);
                String[] calls = line.substring(0, line.indexOf(" the interface")).split("`");
                int from = source.indexOf("// " + heading + " ");
                int end = source.indexOf("// ----", from + 1);
                Check.same("heading " + heading, from >= 0 && end > from, true);
                for (int i = 1; i < calls.length; i += 2) {
                    int at = source.indexOf(" " + calls[i] + "(", from);
                    Check.same(calls[i] + " under " + heading, at > from && at < end, true);
                }
                seen++;
            }
        }
        Check.same("headings", seen, 6);
    }
}
