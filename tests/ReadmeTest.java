import java.io.IOException;
import java.lang.reflect.Method;
import java.nio.file.Files;
import java.nio.file.Path;
import java.util.HashSet;
import java.util.List;
import java.util.Set;
import java.util.regex.Matcher;
import java.util.regex.Pattern;

/** The calls that README.md shows answer what stands behind them; it names every call and every constant. */
public final class ReadmeTest {
    private static final Pattern CALL = Pattern.compile("^city\\.(\\w+)\\(([^)]*)\\);\\s+// (-?\\d+)\\b.*");
    private static int wrong = 0;

    public static void main(String[] args) throws ReflectiveOperationException, IOException {
        List<String> lines = Files.readAllLines(Path.of("README.md"));
        LeaseLand city = null;
        int calls = 0;
        for (String line : lines) {
            if (line.equals("LeaseLand city = new LeaseLand();")) city = new LeaseLand();
            if (!line.startsWith("city.")) continue;
            Matcher m = CALL.matcher(line);
            if (!m.matches() || city == null) {
                fail("can not be read: " + line);
                continue;
            }
            calls++;
            long got = call(city, m.group(1), m.group(2));
            if (got != Long.parseLong(m.group(3))) fail(line + " answered " + got);
        }
        lookForNames(String.join("\n", lines));
        System.out.println(calls + " calls of README.md, " + wrong + " wrong");
        if (wrong != 0 || calls < 20) System.exit(1);
    }

    private static long call(LeaseLand city, String name, String numbers) throws ReflectiveOperationException {
        for (Method method : LeaseLand.class.getMethods()) {
            if (!method.getName().equals(name)) continue;
            String[] texts = numbers.isEmpty() ? new String[0] : numbers.split(", ");
            Object[] args = new Object[texts.length];
            for (int i = 0; i < texts.length; i++) args[i] = value(texts[i]);
            return ((Number) method.invoke(city, args)).longValue();
        }
        fail("no call " + name);
        return 0;
    }

    private static Object value(String text) {
        if (text.equals("true") || text.equals("false")) return Boolean.valueOf(text);
        return text.startsWith("'") ? text.charAt(1) : Integer.parseInt(text);
    }

    private static void lookForNames(String page) {
        Set<String> named = new HashSet<>();
        Matcher m = Pattern.compile("`([\\w.]+)`").matcher(page);
        while (m.find()) named.add(m.group(1).replace("LeaseLand.", ""));
        for (Method method : LeaseLand.class.getDeclaredMethods()) {
            boolean isFace = java.lang.reflect.Modifier.isPublic(method.getModifiers());
            if (isFace && !named.contains(method.getName())) fail("it does not name " + method.getName());
        }
        for (String constant : List.of("UNKNOWN", "OUTSIDE", "STATE", "FULL", "NO", "NONE", "LOST", "END")) {
            if (!named.contains(constant)) fail("it does not name " + constant);
        }
        if (!page.contains("    .ci/run\n")) fail("it does not say how tests are run");
    }

    private static void fail(String what) {
        wrong++;
        System.out.println("README.md: " + what);
    }
}
