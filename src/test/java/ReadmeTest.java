import java.lang.reflect.Method;
import java.nio.file.Files;
import java.nio.file.Path;
import java.util.List;
import java.util.regex.Matcher;
import java.util.regex.Pattern;

/** Holds the examples of README.md to the answers that stand behind them: a line "call;  // answer" each. */
public final class ReadmeTest {
    private static final Pattern CALL = Pattern.compile("walk\\.(\\w+)\\((.*)\\);\\s+// (\\S+).*");
    private static final Pattern CALL_FOR_DOUBLE =
        Pattern.compile("Double\\.longBitsToDouble\\(walk\\.(\\w+)\\((.*)\\)\\);\\s+// (\\S+).*");
    private static final Pattern DOUBLE = Pattern.compile("Double\\.doubleToRawLongBits\\((.*)\\)");
    private static final int FEWEST_EXAMPLES = 30;

    private static final RopeDrums walk = new RopeDrums();
    private static int calls = 0;
    private static int wrong = 0;

    public static void main(String[] args) throws Exception {
        for (String line : examples(Files.readAllLines(Path.of("README.md")))) check(line);
        if (calls < FEWEST_EXAMPLES) tell("README.md has only " + calls + " examples");
        if (wrong > 0) System.exit(1);
        System.out.println(calls + " examples of README.md hold");
    }

    private static List<String> examples(List<String> lines) {
        List<String> behind = lines.subList(lines.indexOf("```java") + 1, lines.size());
        return behind.subList(0, Math.max(0, behind.indexOf("```")));
    }

    private static void check(String line) throws Exception {
        Matcher forDouble = CALL_FOR_DOUBLE.matcher(line);
        Matcher call = CALL.matcher(line);
        if (forDouble.matches()) {
            long bits = ((Number) answer(forDouble)).longValue();
            compare(line, String.valueOf(Double.longBitsToDouble(bits)), forDouble.group(3));
        } else if (call.matches()) {
            compare(line, String.valueOf(answer(call)), call.group(3));
        } else if (!line.isEmpty() && !line.startsWith("//") && !line.equals("RopeDrums walk = new RopeDrums();")) {
            tell("README.md has a line that is no example: " + line);
        }
    }

    private static Object answer(Matcher call) throws Exception {
        for (Method method : RopeDrums.class.getDeclaredMethods()) {
            if (method.getName().equals(call.group(1))) return method.invoke(walk, values(method, call.group(2)));
        }
        throw new IllegalStateException("README.md calls " + call.group(1) + ", and there is no such method");
    }

    private static Object[] values(Method method, String told) {
        String[] texts = told.isEmpty() ? new String[0] : told.split(", ");
        Class<?>[] types = method.getParameterTypes();
        Object[] values = new Object[texts.length];
        for (int i = 0; i < texts.length; i++) values[i] = value(types[i], texts[i]);
        return values;
    }

    private static Object value(Class<?> type, String text) {
        if (type == boolean.class) return Boolean.valueOf(text);
        if (type == int.class) return Integer.valueOf(text);
        Matcher real = DOUBLE.matcher(text);
        return real.matches() ? Double.doubleToRawLongBits(Double.parseDouble(real.group(1))) : Long.parseLong(text);
    }

    private static void compare(String line, String got, String due) {
        calls++;
        if (!got.equals(due)) tell(line + " answered " + got);
    }

    private static void tell(String fault) {
        wrong++;
        System.out.println(fault);
    }
}
