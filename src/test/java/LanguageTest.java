import java.io.IOException;
import java.lang.reflect.Constructor;
import java.lang.reflect.Field;
import java.lang.reflect.Method;
import java.lang.reflect.Modifier;
import java.nio.charset.StandardCharsets;
import java.nio.file.Files;
import java.nio.file.Path;
import java.util.ArrayDeque;
import java.util.Set;
import java.util.TreeSet;
import java.util.regex.Matcher;
import java.util.regex.Pattern;

/** Those rules of LANGUAGE.md that can be looked up in the source and in the compiled class. */
public final class LanguageTest {
    private static final String FACE = "nodes edges node edge dropNode dropEdge set ofNode ofEdge "
            + "view through step wipe matches shortest allShortest matchAt open goOn found foundAt "
            + "steps closure reaches pairs changes degrees rule begin use commit abort watch news "
            + "cost flow density meanWeight checksum isSound";

    private LanguageTest() { }

    public static void main(String[] args) throws IOException {
        String source = Files.readString(Path.of("src/main/java/GristGraph.java"),
                StandardCharsets.US_ASCII);
        String code = withoutTexts(source);
        face();
        namesInside();
        sizes();
        words(code);
        library(code);
        methodLengths(code);
        loops(code);
        Check.end();
    }

    private static String withoutTexts(String source) {
        return source.replaceAll("(?s)/\\*.*?\\*/", "").replaceAll("//[^\n]*", "")
                .replaceAll("\"[^\"\n]*\"", "\"\"");
    }

    private static void face() {
        Set<String> due = new TreeSet<>(Set.of(FACE.split(" ")));
        Set<String> open = new TreeSet<>();
        Class<?> face = GristGraph.class;
        for (Method method : face.getDeclaredMethods()) {
            if (!Modifier.isPrivate(method.getModifiers())) {
                open.add(method.getName());
                Check.same("rule 1, public " + method.getName(),
                        Modifier.isPublic(method.getModifiers()), true);
            } else {
                Check.same("rule 1, name of " + method.getName(),
                        due.contains(method.getName()), false);
            }
        }
        Check.same("rule 1, methods", open, due);
        for (Field field : face.getDeclaredFields()) {
            Check.same("rule 1, field " + field.getName(),
                    Modifier.isPrivate(field.getModifiers()), true);
        }
        for (Constructor<?> constructor : face.getDeclaredConstructors()) {
            Check.same("rule 1, constructor", constructor.toString(), "public GristGraph()");
        }
        Check.same("rule 1, final", Modifier.isFinal(face.getModifiers()), true);
    }

    private static void namesInside() {
        Set<String> due = Set.of(FACE.split(" "));
        for (Class<?> inside : GristGraph.class.getDeclaredClasses()) {
            Check.same("rule 1, static " + inside, Modifier.isStatic(inside.getModifiers()), true);
            for (Method method : inside.getDeclaredMethods()) {
                Check.same("rule 1, " + method, due.contains(method.getName()), false);
                Check.same("rule 6, " + method, Set.of("equals", "hashCode", "toString")
                        .contains(method.getName()), false);
            }
        }
    }

    private static void sizes() {
        Class<?>[] inside = GristGraph.class.getDeclaredClasses();
        Check.same("rule 11, classes", inside.length + 1 <= 12, true);
        checkSize(GristGraph.class);
        for (Class<?> one : inside) {
            checkSize(one);
        }
    }

    private static void checkSize(Class<?> one) {
        int fields = 0;
        for (Field field : one.getDeclaredFields()) {
            boolean isStatic = Modifier.isStatic(field.getModifiers());
            Check.same("rule 5, " + field,
                    !isStatic || Modifier.isFinal(field.getModifiers()), true);
            fields += isStatic ? 0 : 1;
        }
        Check.same("rule 11, fields of " + one, fields <= 20, true);
        for (Method method : one.getDeclaredMethods()) {
            Check.same("rule 11, parameters of " + method, method.getParameterCount() <= 7, true);
        }
    }

    private static void words(String code) {
        String[] never = {"try", "catch", "finally", "synchronized", "assert", "protected",
            "package", "->", "::", "@", "System.out", "Exact(", "instanceof", "static {"};
        for (String word : never) {
            String edge = Character.isLetter(word.charAt(0)) ? "\\b" : "";
            boolean isThere = Pattern.compile(edge + Pattern.quote(word)).matcher(code).find();
            Check.same("no " + word, isThere, false);
        }
        Matcher imports = Pattern.compile("import ([^;]+);").matcher(code);
        while (imports.find()) {
            Check.same("rule 4, import " + imports.group(1), Set.of("java.util.ArrayList",
                    "java.util.NoSuchElementException").contains(imports.group(1)), true);
        }
        Matcher thrown = Pattern.compile("throw new (\\w+)\\(\"\"\\)").matcher(code);
        int count = 0;
        while (thrown.find()) {
            count++;
        }
        Check.same("rule 6, each throw is new with a text",
                code.split("\\bthrow\\b").length - 1, count);
    }

    private static void library(String code) {
        Set<String> fine = Set.of("Integer.bitCount", "Long.bitCount", "Math.min",
                "System.arraycopy");
        Matcher calls = Pattern.compile("\\b(Integer|Long|Math|System|Arrays|String)\\.\\w+")
                .matcher(code);
        while (calls.find()) {
            Check.same("rule 4, " + calls.group(), fine.contains(calls.group()), true);
        }
    }

    /** Rule 9: a counter that goes up by one against a bound, and is not set in the loop. */
    private static void loops(String code) {
        String[] lines = code.split("\n");
        Pattern head = Pattern.compile(
                "( *)for \\(int (\\w+) = [^;]+; \\2 <=? [^;]+; \\2\\+\\+\\) \\{");
        int seen = 0;
        for (int i = 0; i < lines.length; i++) {
            Check.same("rule 9, line " + i, lines[i].matches(".*\\b(while|do)\\b.*"), false);
            if (lines[i].matches(".*\\bfor\\b.*")) {
                Matcher loop = head.matcher(lines[i]);
                Check.same("rule 9, loop at line " + i, loop.matches(), true);
                for (int j = i + 1; !lines[j].equals(loop.group(1) + "}"); j++) {
                    Check.same("rule 9, its counter at line " + j, lines[j].matches(
                            ".*\\b" + loop.group(2) + "(\\+\\+|--| [-+|&]?= ).*"), false);
                }
                seen++;
            }
        }
        Check.same("loops were seen", seen > 40, true);
    }

    /** A block that stands in a class, but is none, is a method: some sixty lines. */
    private static void methodLengths(String code) {
        ArrayDeque<Integer> starts = new ArrayDeque<>();
        ArrayDeque<Boolean> areClasses = new ArrayDeque<>();
        String[] lines = code.split("\n");
        int methods = 0;
        for (int i = 0; i < lines.length; i++) {
            Check.same("lines are at most 100 wide", lines[i].length() <= 100, true);
            for (char sign : lines[i].toCharArray()) {
                if (sign == '{') {
                    starts.push(i);
                    areClasses.push(lines[i].contains("class "));
                } else if (sign == '}') {
                    int start = starts.pop();
                    if (!areClasses.pop() && areClasses.peek()) {
                        methods++;
                        Check.same("rule 11, method at line " + start, i - start < 60, true);
                    }
                }
            }
        }
        Check.same("methods were seen", methods > 80, true);
    }
}
