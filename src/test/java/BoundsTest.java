import java.io.IOException;
import java.lang.reflect.Method;
import java.nio.charset.StandardCharsets;
import java.nio.file.Files;
import java.nio.file.Path;
import java.util.Arrays;
import java.util.Comparator;
import java.util.LinkedHashMap;
import java.util.Map;
import java.util.regex.Matcher;
import java.util.regex.Pattern;

/**
 * Runs the boundary tests, one by one, and holds the words that they are about against the document: each stands
 * there, and no words of the document are left that no test is about. So a sentence that the document changes or adds
 * is told here, till it has its test. Run in the project's folder.
 */
public final class BoundsTest {
    private static final Due due = new Due("BoundsTest");
    private static final Class<?>[] TESTS = {
        SheetBounds.class, TextBounds.class, StepBounds.class, ForetoldBounds.class, AskedBounds.class};

    /** By sections of the document: its words, and how many tests are about each letter of them. */
    private static final Map<String, String> words = new LinkedHashMap<>();
    private static final Map<String, int[]> told = new LinkedHashMap<>();

    public static void main(String[] args) throws Exception {
        readDocument(Path.of("../shared/DOC.md"));
        for (Class<?> tests : TESTS) {
            Method[] methods = tests.getDeclaredMethods();
            Arrays.sort(methods, Comparator.comparing(Method::getName));
            for (Method m : methods) {
                if (m.isAnnotationPresent(Says.class)) {
                    run(m);
                }
            }
        }
        for (String section : words.keySet()) {
            due.is("words of " + section + " that no test is about: " + rest(section), 0, rest(section).length());
        }
        due.end();
    }

    private static void run(Method test) throws Exception {
        for (String saying : test.getAnnotation(Says.class).value()) {
            mark(saying);
        }
        int before = due.answers();
        int wrong = due.wrongs();
        test.invoke(null, due);
        due.holds(test.getName() + " asks something", due.answers() > before);
        if (due.wrongs() > wrong) {
            System.out.println("    in " + test.getDeclaringClass().getName() + "." + test.getName());
        }
    }

    private static void mark(String saying) {
        String section = saying.substring(0, saying.indexOf(": "));
        String quoted = saying.substring(section.length() + 2);
        String text = words.getOrDefault(section, "");
        int at = text.indexOf(quoted);
        due.holds("the document says, " + saying, at >= 0 && !quoted.isEmpty());
        while (at >= 0) {
            for (int i = at; i < at + quoted.length(); i++) {
                told.get(section)[i]++;
            }
            at = text.indexOf(quoted, at + 1);
        }
    }

    private static String rest(String section) {
        String text = words.get(section);
        StringBuilder rest = new StringBuilder();
        for (int i = 0; i < text.length(); i++) {
            boolean open = told.get(section)[i] == 0;
            rest.append(open ? text.charAt(i) : ' ');
        }
        return rest.toString().replaceAll("[^A-Za-z0-9]*(?<![A-Za-z0-9])and(?![A-Za-z0-9])", " ")
                .replaceAll("[^A-Za-z0-9]+", " ").trim();
    }

    /**
     * Headings, marks of layout and what is said of the interface's parts are no words to be tested; nor is what is
     * said of what is divided, since no promise divides anything.
     */
    private static void readDocument(Path path) throws IOException {
        String doc = Files.readString(path, StandardCharsets.UTF_8);
        Matcher m = Pattern.compile("(?s)\n## (What it is|Terms|Promise (\\d+): [^\n]*)\n(.*?)(?=\n## )").matcher(doc);
        while (m.find()) {
            String body = m.group(3).replaceAll("```text|```|======== \\d|Ahead of the calls [^\n]*"
                    + "|All that is divided is cut towards 0\\.", "");
            if (m.group(1).equals("What it is")) {
                body = body.substring(body.indexOf("An object is used"));
            }
            String section = m.group(2) != null ? m.group(2) : m.group(1);
            body = body.replaceAll("^\\s*`[^`]*`:", "").replaceAll("\\s+", " ").trim();
            words.put(section, body);
            told.put(section, new int[body.length()]);
        }
        due.is("the document's sections", 31, words.size());
    }
}
