import java.io.IOException;
import java.lang.reflect.Method;
import java.nio.file.Files;
import java.nio.file.Path;
import java.util.regex.Matcher;
import java.util.regex.Pattern;

/** Runs the lines of Java in README.md, in their row, and holds the answers against what stands behind them. */
public final class ReadmeTest {
    private static final Pattern MADE = Pattern.compile("CelSheets x = new CelSheets\\(\\);");
    private static final Pattern TOLD = Pattern.compile("for \\(char letter : \"([^\"]*)\"\\.toCharArray\\(\\)\\) x\\.write\\(letter\\);");
    private static final Pattern CALLED = Pattern.compile("x\\.(\\w+)\\((.*)\\); +// (-?\\d+)(\\W.*)?");

    private static final Check check = new Check();
    private static CelSheets x;
    private static int calls = 0;

    public static void main(String[] args) throws IOException, ReflectiveOperationException {
        boolean java = false;
        for (String line : Files.readAllLines(Path.of("README.md"))) {
            if (line.startsWith("```")) java = line.equals("```java");
            else if (java) run(line);
        }
        check.holds("the page runs calls, and no more than an object is used for: " + calls, calls > 40 && calls <= Desk.MOST_CALLS);
        check.end();
    }

    private static void run(String line) throws ReflectiveOperationException {
        Matcher told = TOLD.matcher(line);
        Matcher called = CALLED.matcher(line);
        if (MADE.matcher(line).matches()) {
            x = new CelSheets();
        } else if (told.matches()) {
            for (char letter : told.group(1).toCharArray()) x.write(letter);
            calls += told.group(1).length();
        } else if (called.matches()) {
            check.due(line, answer(called.group(1), called.group(2)), Long.parseLong(called.group(3)));
            calls++;
        } else {
            check.holds("a line that the test can run: " + line, false);
        }
    }

    private static long answer(String name, String told) throws ReflectiveOperationException {
        String[] words = told.isEmpty() ? new String[0] : told.split(", ");
        for (Method m : CelSheets.class.getMethods()) {
            if (!m.getName().equals(name) || m.getDeclaringClass() != CelSheets.class) continue;
            Class<?>[] types = m.getParameterTypes();
            check.holds(name + " takes " + types.length, types.length == words.length);
            Object[] arguments = new Object[words.length];
            for (int i = 0; i < words.length; i++) arguments[i] = argument(words[i], types[i]);
            return ((Number) m.invoke(x, arguments)).longValue();
        }
        throw new IllegalStateException("no call " + name);
    }

    private static Object argument(String word, Class<?> type) {
        if (type == boolean.class) return word.equals("true");
        if (type == long.class) return Long.valueOf(word.replace("L", ""));
        return word.startsWith("'") ? Integer.valueOf(word.charAt(1)) : Integer.valueOf(word);
    }
}
