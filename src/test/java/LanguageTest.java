import java.lang.reflect.Constructor;
import java.lang.reflect.Field;
import java.lang.reflect.Method;
import java.lang.reflect.Modifier;
import java.nio.charset.StandardCharsets;
import java.nio.file.Files;
import java.nio.file.Path;
import java.util.ArrayList;
import java.util.List;
import java.util.Set;
import java.util.TreeSet;
import java.util.regex.Matcher;
import java.util.regex.Pattern;

/** The face of the document, and those rules of LANGUAGE.md that a test can see; run in the project's folder. */
public final class LanguageTest {
    private static final Due due = new Due("LanguageTest");
    private static final String[] FACE = {
        "sheet(int,int,int)", "set(int,int,int)", "copy(int,int,int,int,int)", "drop(int)", "feed(long,int)", "city()",
        "fault()", "look(int,int,int)", "price(int,int)", "step(int,int)", "walk(int,int,int,int)", "person(int,int)",
        "got(int)", "witnesses(int)", "home(int,int,int)", "nothing(int)", "beauty(int)", "earns(int,int)", "rivals(int)",
        "wall(int,int)", "image(int)", "restore(int)", "kind(int)", "as(int,int)", "ask(int,int)", "trace(int)",
        "count(int)", "status()"};

    public static void main(String[] args) throws Exception {
        face();
        classes();
        String source = Files.readString(Path.of("src/main/java/PricedLooks.java"), StandardCharsets.ISO_8859_1);
        due.holds("signs are 10 and 32 to 126", source.chars().allMatch(c -> c == 10 || c >= 32 && c < 127));
        words(source.replaceAll("(?s)/\\*.*?\\*/|//[^\n]*", ""));
        lengths(source.split("\n"));
        due.end();
    }

    private static void face() {
        due.holds("public and final", Modifier.isPublic(PricedLooks.class.getModifiers())
                && Modifier.isFinal(PricedLooks.class.getModifiers()));
        Set<String> told = new TreeSet<>(List.of(FACE));
        Set<String> there = new TreeSet<>();
        for (Method m : PricedLooks.class.getDeclaredMethods()) {
            if (Modifier.isPrivate(m.getModifiers())) {
                continue;
            }
            List<String> types = new ArrayList<>();
            for (Class<?> type : m.getParameterTypes()) {
                types.add(type.getName());
            }
            there.add(m.getName() + "(" + String.join(",", types) + ")");
            due.holds(m + " answers an int and is public", m.getReturnType() == int.class && Modifier.isPublic(m.getModifiers()));
        }
        due.holds("the methods of the face, and no others: " + there, told.equals(there));
        for (Field f : PricedLooks.class.getDeclaredFields()) {
            boolean constant = Set.of("NONE", "BAD", "STATE", "FULL").contains(f.getName());
            int want = constant ? Modifier.PUBLIC | Modifier.STATIC | Modifier.FINAL : Modifier.PRIVATE;
            due.is("modifiers of " + f, want, f.getModifiers() & (constant ? ~0 : Modifier.PRIVATE | Modifier.PUBLIC));
        }
        for (Constructor<?> c : PricedLooks.class.getDeclaredConstructors()) {
            due.holds(c + " is the only one", c.getParameterCount() == 0 && Modifier.isPublic(c.getModifiers()));
        }
    }

    private static void classes() {
        Class<?>[] inside = PricedLooks.class.getDeclaredClasses();
        due.holds("some twelve classes", inside.length <= 11);
        Set<String> names = new TreeSet<>();
        for (String method : FACE) {
            names.add(method.substring(0, method.indexOf('(')));
        }
        for (Class<?> c : inside) {
            due.holds(c + " is static", Modifier.isStatic(c.getModifiers()));
            int fields = 0;
            for (Field f : c.getDeclaredFields()) {
                boolean fixed = Modifier.isStatic(f.getModifiers());
                fields += fixed ? 0 : 1;
                due.holds(f + " is final, if it is static", !fixed || Modifier.isFinal(f.getModifiers()));
            }
            due.holds("some twenty fields of " + c, fields <= 20);
            for (Method m : c.getDeclaredMethods()) {
                due.holds(m + " bears no name of the face", !names.contains(m.getName()));
                due.holds("seven parameters at most: " + m, m.getParameterCount() <= 7);
            }
        }
        for (Method m : PricedLooks.class.getDeclaredMethods()) {
            due.holds(m + " bears no name of the face", !Modifier.isPrivate(m.getModifiers()) || !names.contains(m.getName()));
        }
    }

    private static void words(String code) {
        String[] ruledOut = {"throw", "throws", "try", "catch", "synchronized", "assert", "protected", "package", "volatile",
            "null", "Object", "System\\.(?!arraycopy)", "Math\\.\\w+Exact", "->", "::", "@", "MAX_VALUE", "MIN_VALUE", "float",
            "double", "Exception", "Error", "static\\s*\\{", "hashCode", "toString", "equals", "Random", "Thread"};
        for (String word : ruledOut) {
            Matcher m = Pattern.compile(word.matches("\\w+") ? "\\b" + word + "\\b" : word).matcher(code);
            due.holds("no " + word, !m.find());
        }
        Matcher imports = Pattern.compile("(?m)^import .*$").matcher(code);
        while (imports.find()) {
            due.holds(imports.group(), imports.group().equals("import java.util.Arrays;"));
        }
        Matcher arrays = Pattern.compile("Arrays\\.(\\w+)").matcher(code);
        while (arrays.find()) {
            due.holds("Arrays." + arrays.group(1), arrays.group(1).matches("Arrays|fill|copyOf|copyOfRange"));
        }
    }

    /** A method's first line ends with ") {" and its last is a bracket as far in as its first line. */
    private static void lengths(String[] lines) {
        int methods = 0;
        for (int i = 0; i < lines.length; i++) {
            Matcher m = Pattern.compile("( {4}| {8})(public|private|static|boolean|int|void)\\b.*\\) \\{").matcher(lines[i]);
            if (!m.matches()) {
                continue;
            }
            methods++;
            int end = i;
            while (!lines[end].equals(m.group(1) + "}")) {
                end++;
            }
            due.holds("some sixty lines: " + lines[i], end - i < 60);
        }
        due.holds("methods were found", methods > 80);
    }
}
