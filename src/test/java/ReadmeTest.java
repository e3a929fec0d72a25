import java.lang.reflect.Method;
import java.lang.reflect.Modifier;
import java.nio.file.Files;
import java.nio.file.Path;
import java.util.ArrayList;
import java.util.List;
import java.util.regex.Matcher;
import java.util.regex.Pattern;

/** The calls in README.md answer what stands behind them, and each call of the face is there; run in the project's folder. */
public final class ReadmeTest {
    private static final Due due = new Due("ReadmeTest");
    private static final Pattern CALL = Pattern.compile("looks\\.(\\w+)\\((.*)\\); +// (-?\\d+|NONE)(:.*)?");

    public static void main(String[] args) throws Exception {
        String readme = Files.readString(Path.of("README.md"));
        PricedLooks looks = new PricedLooks();
        Due.feed(looks, textTold(readme));
        List<String> called = new ArrayList<>(List.of("feed"));
        for (String line : readme.split("\n")) {
            Matcher m = CALL.matcher(line);
            if (m.matches()) {
                called.add(m.group(1));
                due.is(line, m.group(3).equals("NONE") ? PricedLooks.NONE : Long.parseLong(m.group(3)), answer(looks, m));
            } else {
                due.holds("has an answer: " + line, !line.startsWith("looks."));
            }
        }
        for (Method m : PricedLooks.class.getDeclaredMethods()) {
            due.holds(m.getName() + " is in README.md", Modifier.isPrivate(m.getModifiers()) || called.contains(m.getName()));
        }
        due.end();
    }

    /** What stands between quotes behind 'String text', to the stop. */
    private static String textTold(String readme) {
        int from = readme.indexOf("String text = ");
        Matcher m = Pattern.compile("\"([^\"]*)\"").matcher(readme.substring(from, readme.indexOf("\";\n", from) + 1));
        StringBuilder text = new StringBuilder();
        while (m.find()) {
            text.append(m.group(1));
        }
        return text.toString();
    }

    private static int answer(PricedLooks looks, Matcher call) throws Exception {
        String[] told = call.group(2).isEmpty() ? new String[0] : call.group(2).split(", ");
        for (Method m : PricedLooks.class.getDeclaredMethods()) {
            if (!m.getName().equals(call.group(1)) || m.getParameterCount() != told.length) {
                continue;
            }
            Object[] values = new Object[told.length];
            for (int i = 0; i < told.length; i++) {
                int value = told[i].charAt(0) == '\'' ? told[i].charAt(1) : Integer.parseInt(told[i]);
                values[i] = value;
                if (m.getParameterTypes()[i] == long.class) {
                    values[i] = (long) value;
                }
            }
            return (int) m.invoke(looks, values);
        }
        throw new IllegalStateException("no such call: " + call.group());
    }
}
