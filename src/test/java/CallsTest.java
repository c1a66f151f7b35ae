import java.io.IOException;
import java.io.PrintWriter;
import java.io.StringWriter;
import java.net.URISyntaxException;
import java.nio.file.Files;
import java.nio.file.Path;
import java.util.ArrayList;
import java.util.LinkedHashMap;
import java.util.List;
import java.util.Map;
import java.util.Set;
import java.util.TreeSet;
import java.util.regex.Matcher;
import java.util.regex.Pattern;
import java.util.spi.ToolProvider;
import java.util.stream.Collectors;
import java.util.stream.Stream;

/**
 * Rules of LANGUAGE.md that the compiled class tells: that there are no lambdas (2), what it calls
 * of the library (4), that it has no static state (5), that nothing is caught and no constructor
 * throws (6), that nothing calls itself (8), how deep calls go (11).
 */
public final class CallsTest {
    private static final Pattern INVOKED =
            Pattern.compile("invoke\\w+ +#\\d+(?:,  \\d+)? +// (\\w+) ([^ ]+)");
    private static final Set<String> LIBRARY = Set.of(
            "java/lang/Object.<init>", "java/util/ArrayList.<init>", "java/util/ArrayList.add",
            "java/util/ArrayList.get", "java/util/ArrayList.size", "java/lang/Integer.bitCount",
            "java/lang/Long.bitCount", "java/lang/Math.min", "java/lang/System.arraycopy",
            "java/lang/IllegalArgumentException.<init>", "java/lang/IllegalStateException.<init>",
            "java/lang/IndexOutOfBoundsException.<init>", "java/lang/ArithmeticException.<init>",
            "java/lang/UnsupportedOperationException.<init>",
            "java/util/NoSuchElementException.<init>");

    /** For each method of the program what it calls, its own and the library's. */
    private static final Map<String, List<String>> CALLS = new LinkedHashMap<>();

    private CallsTest() { }

    public static void main(String[] args) throws IOException, URISyntaxException {
        if (ToolProvider.findFirst("javap").isEmpty()) {
            System.out.println("there is no javap to look with");
            return;
        }
        Path folder = Path.of(
                GristGraph.class.getProtectionDomain().getCodeSource().getLocation().toURI());
        List<String> files;
        try (Stream<Path> all = Files.list(folder)) {
            files = all.map(Path::toString).filter(name -> name.matches(".*GristGraph[^/]*\\.class"))
                    .sorted().collect(Collectors.toList());
        }
        Check.same("rule 11, classes", files.size() <= 12, true);
        for (String file : files) {
            read(told(file));
        }
        library();
        deepest();
        Check.end();
    }

    private static String told(String file) {
        StringWriter out = new StringWriter();
        ToolProvider javap = ToolProvider.findFirst("javap").orElseThrow();
        int code = javap.run(new PrintWriter(out), new PrintWriter(out), "-c", "-p", "-s", file);
        Check.same("javap of " + file, code, 0);
        return out.toString();
    }

    private static void read(String text) {
        String owner = "";
        String name = "";
        String method = "";
        Check.same("rule 6, nothing is caught", text.contains("Exception table:"), false);
        Check.same("rule 2, no lambda", text.contains("invokedynamic"), false);
        for (String line : text.split("\n")) {
            if (line.matches("(public |private |static |final |abstract )*class .*\\{")) {
                owner = line.replaceFirst(".*class ([\\w$]+).*", "$1");
            } else if (line.matches("  \\S.*\\(.*\\).*;")) {
                name = line.replaceFirst("^(.*[ ])?([\\w$]+)\\(.*$", "$2").trim();
                name = name.equals(owner) ? "<init>" : name;
            } else if (line.startsWith("    descriptor: ")) {
                method = owner + "." + name + ":" + line.substring("    descriptor: ".length());
                if (method.contains("(")) {
                    CALLS.put(method, new ArrayList<>());
                }
            } else {
                instruction(line, owner, method);
            }
        }
    }

    private static void instruction(String line, String owner, String method) {
        Matcher invoked = INVOKED.matcher(line);
        if (invoked.find()) {
            String called = invoked.group(2).replace("\"", "");
            String head = called.substring(0, called.indexOf(':'));
            CALLS.get(method).add(head.contains(".") ? called : owner + "." + called);
        } else if (line.contains(": athrow")) {
            Check.same("rule 6, no throw in a constructor", method.contains("<init>"), false);
        } else if (line.contains(": checkcast")) {
            // Only those that javac puts behind a list's get.
            String before = CALLS.get(method).get(CALLS.get(method).size() - 1);
            Check.same("rule 6, a cast in " + method, before.startsWith("java/util/ArrayList.get"),
                    true);
        } else {
            for (String word : List.of("invokeinterface", "monitorenter", "instanceof", "putstatic",
                    "getstatic", "multianewarray", "jsr", "goto_w")) {
                Check.same("no " + word + " in " + method, line.contains(": " + word + " "), false);
            }
        }
    }

    private static void library() {
        Set<String> others = new TreeSet<>();
        int own = 0;
        for (List<String> calls : CALLS.values()) {
            for (String called : calls) {
                if (CALLS.containsKey(called)) {
                    own++;
                } else {
                    others.add(called.substring(0, called.indexOf(':')));
                }
            }
        }
        others.removeAll(LIBRARY);
        Check.same("rule 4, calls of the library beside those looked at", others.toString(), "[]");
        System.out.println(CALLS.size() + " methods, " + own + " calls among them");
        Check.same("methods were seen", CALLS.size() > 80 && own > 150, true);
    }

    private static void deepest() {
        int most = 0;
        for (String method : CALLS.keySet()) {
            most = Math.max(most, depth(method, new ArrayList<>()));
        }
        System.out.println("calls go " + most + " deep");
        Check.same("rule 11, calls go at most eight deep", most <= 8, true);
    }

    /** How many calls stand open at once, the library's own counted as one. */
    private static int depth(String method, List<String> open) {
        Check.same("rule 8, no recursion by " + method, open.contains(method), false);
        if (open.contains(method) || !CALLS.containsKey(method)) {
            return 1;
        }
        List<String> next = new ArrayList<>(open);
        next.add(method);
        int most = 0;
        for (String called : new TreeSet<>(CALLS.get(method))) {
            most = Math.max(most, depth(called, next));
        }
        return most + 1;
    }
}
