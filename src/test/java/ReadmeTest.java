import java.io.IOException;
import java.lang.reflect.InvocationTargetException;
import java.lang.reflect.Method;
import java.nio.file.Files;
import java.nio.file.Path;
import java.util.HashSet;
import java.util.Set;
import java.util.regex.Matcher;
import java.util.regex.Pattern;

/** Runs the rows of README.md: each call there answers what stands behind it. */
public final class ReadmeTest {
    private static final Pattern ROW = Pattern.compile("house\\.(\\w+)\\((.*)\\); *// (throws \\w+|\\S+).*");
    private static final String MADE = "Towerliftry house = new Towerliftry();";

    private static Towerliftry house = null;
    private static final Set<String> called = new HashSet<>();

    private ReadmeTest() {
    }

    public static void main(String[] args) throws IOException, IllegalAccessException {
        boolean isCode = false;
        for (String line : Files.readAllLines(Path.of("README.md"))) {
            if (line.startsWith("```")) {
                isCode = line.equals("```java");
            } else if (isCode) {
                run(line);
            }
        }
        for (Method each : Towerliftry.class.getDeclaredMethods()) {
            if (java.lang.reflect.Modifier.isPublic(each.getModifiers())) {
                Expect.same("README.md calls " + each.getName(), called.contains(each.getName()), true);
            }
        }
        Expect.end();
    }

    private static void run(String line) throws IllegalAccessException {
        Matcher row = ROW.matcher(line);
        if (line.startsWith(MADE)) {
            house = new Towerliftry();
        } else if (row.matches() && house != null) {
            called.add(row.group(1));
            String got = answer(row.group(1), row.group(2));
            Expect.same("README.md: " + line + " answered " + got + ":", got.equals(row.group(3)), true);
        } else {
            Expect.note("README.md: no call with its answer: " + line);
        }
    }

    private static String answer(String name, String written) throws IllegalAccessException {
        Method method = methodOf(name);
        try {
            Object got = method.invoke(house, valuesOf(written));
            return got instanceof Character ? "'" + got + "'" : String.valueOf(got);
        } catch (InvocationTargetException e) {
            return "throws " + e.getCause().getClass().getSimpleName();
        }
    }

    private static Method methodOf(String name) {
        for (Method each : Towerliftry.class.getMethods()) {
            if (each.getName().equals(name)) {
                return each;
            }
        }
        throw new IllegalStateException("no call " + name);
    }

    private static Object[] valuesOf(String written) {
        if (written.isEmpty()) {
            return new Object[0];
        }
        String[] each = written.split(", ");
        Object[] values = new Object[each.length];
        for (int i = 0; i < each.length; i++) {
            values[i] = valueOf(each[i]);
        }
        return values;
    }

    private static Object valueOf(String written) {
        if (written.startsWith("'")) {
            return written.charAt(1);
        }
        if (written.equals("true") || written.equals("false")) {
            return written.equals("true");
        }
        return Integer.valueOf(written);
    }
}
