import java.io.IOException;
import java.nio.charset.StandardCharsets;
import java.nio.file.Files;
import java.nio.file.Path;
import java.util.LinkedHashMap;
import java.util.Map;
import java.util.regex.Matcher;
import java.util.regex.Pattern;

/**
 * Whether SENTENCES.md has all sentences of the document, section by section and word by word,
 * and whether the tests that it names are there and are run.
 */
public final class SentenceTest {
    private static final Pattern ROW = Pattern.compile("\\| (.*) \\| (.*) \\|");
    private static final Pattern NAME = Pattern.compile("`(\\w+Test)(?:\\.(\\w+))?`");

    private SentenceTest() { }

    public static void main(String[] args) throws IOException {
        if (Files.exists(Path.of("../shared/DOC.md"))) {
            sentences();
        } else {
            System.out.println("there is no ../shared/DOC.md to compare with");
        }
        tests();
        Check.end();
    }

    private static void sentences() throws IOException {
        Map<String, String> due = sections(read("../shared/DOC.md"), SentenceTest::textOf);
        Map<String, String> told = sections(read("src/test/SENTENCES.md"), SentenceTest::firstCell);
        Check.same("sections", String.join("\n", told.keySet()), String.join("\n", due.keySet()));
        Check.same("a section for each promise", due.size(), 4 + 41);
        for (String section : due.keySet()) {
            alike(section, String.valueOf(told.get(section)), due.get(section));
        }
    }

    private interface Line {
        String part(String line);
    }

    private static String read(String file) throws IOException {
        return Files.readString(Path.of(file), StandardCharsets.UTF_8);
    }

    private static Map<String, String> sections(String text, Line line) {
        Map<String, String> sections = new LinkedHashMap<>();
        String section = null;
        for (String one : text.replaceAll("(?s)```.*?```", "").split("\n")) {
            if (one.startsWith("## ")) {
                section = one;
                sections.put(section, "");
            } else if (section != null && !line.part(one).isEmpty()) {
                sections.merge(section, line.part(one), (all, next) -> (all + " " + next).trim());
            }
        }
        return sections;
    }

    /** Without the mark of a list, and the call at a promise's beginning, which FaceTest reads. */
    private static String textOf(String line) {
        return line.replaceFirst("^- ", "").replaceFirst("^`[^`]*\\([^`]*`: ", "").trim();
    }

    private static String firstCell(String line) {
        Matcher row = ROW.matcher(line);
        boolean isTold = row.matches() && !row.group(1).equals("sentence")
                && !row.group(1).equals("---");
        return isTold ? row.group(1) : "";
    }

    /** Tells only where two texts part. */
    private static void alike(String section, String told, String due) {
        int at = 0;
        while (at < told.length() && at < due.length() && told.charAt(at) == due.charAt(at)) {
            at++;
        }
        int end = Math.max(told.length(), due.length());
        Check.same("sentences of " + section, told.substring(at, Math.min(told.length(), at + 60)),
                due.substring(at, Math.min(due.length(), at + 60)));
        Check.same("length of " + section, at, end);
    }

    private static void tests() throws IOException {
        int count = 0;
        for (String line : read("src/test/SENTENCES.md").split("\n")) {
            if (!firstCell(line).isEmpty()) {
                Matcher name = NAME.matcher(line.substring(line.lastIndexOf(" | ")));
                boolean isTested = false;
                while (name.find()) {
                    test(name.group(1), name.group(2));
                    isTested = true;
                    count++;
                }
                Check.same("tested or free: " + line,
                        isTested || line.endsWith("| none: it is free |"), true);
            }
        }
        Check.same("tests are named", count > 400, true);
    }

    /** Its name stands in it once where it is written and once more where it is called. */
    private static void test(String test, String method) throws IOException {
        Path file = Path.of("src/test/java/" + test + ".java");
        Check.same("there is " + test, Files.exists(file), true);
        if (method != null) {
            String source = Files.readString(file, StandardCharsets.UTF_8);
            Check.same("there is " + test + "." + method,
                    source.contains("private static void " + method + "("), true);
            Check.same("it is called, " + test + "." + method,
                    Pattern.compile("\\n +" + method + "\\(.*\\);").matcher(source).find(), true);
        }
    }
}
