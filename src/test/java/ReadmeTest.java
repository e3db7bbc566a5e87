import java.io.IOException;
import java.lang.reflect.Field;
import java.lang.reflect.Method;
import java.lang.reflect.Modifier;
import java.nio.file.Files;
import java.nio.file.Path;
import java.util.regex.Matcher;
import java.util.regex.Pattern;

/** README.md tells every call and constant, and its example answers what it says; run from the project's root. */
public final class ReadmeTest {
    private static final Pattern CALL = Pattern.compile("(?m)^x\\.(\\w+)\\((.*?)\\); *// (-?[0-9.]+)");
    private static final Pattern LINE = Pattern.compile("(?m)^x\\.");

    public static void main(String[] args) throws IOException, ReflectiveOperationException {
        String readme = Files.readString(Path.of("README.md"));
        dueExample(readme);
        dueAllTold(readme);
        Check.end();
    }

    private static void dueExample(String readme) throws ReflectiveOperationException {
        ResampledRows x = new ResampledRows();
        int calls = 0;
        Matcher found = CALL.matcher(readme);
        while (found.find()) {
            calls++;
            String call = found.group(1) + "(" + found.group(2) + ")";
            Object got = answer(x, found.group(1), found.group(2));
            if (!got.toString().equals(found.group(3))) {
                Check.due("README.md says " + found.group(3) + ", but " + call + " answered " + got, 0, 1);
            }
        }
        // A line that the pattern does not read would be a line that nobody tests.
        Check.due("calls of the example that are read", calls, LINE.matcher(readme).results().count());
        Check.due("the example has calls", calls > 0 ? 1 : 0, 1);
    }

    private static Object answer(ResampledRows x, String name, String written) throws ReflectiveOperationException {
        String[] numbers = written.isEmpty() ? new String[0] : written.split(", ");
        Method method = methodNamed(name);
        Object[] values = new Object[numbers.length];
        for (int k = 0; k < numbers.length; k++) {
            long value = Long.parseLong(numbers[k].replace("L", ""));
            if (method.getParameterTypes()[k] == long.class) {
                values[k] = value;
            } else {
                values[k] = Math.toIntExact(value);
            }
        }
        return method.invoke(x, values);
    }

    private static Method methodNamed(String name) {
        for (Method method : ResampledRows.class.getDeclaredMethods()) {
            if (method.getName().equals(name) && Modifier.isPublic(method.getModifiers())) {
                return method;
            }
        }
        throw new IllegalStateException("README.md calls " + name + ", which the face has not");
    }

    private static void dueAllTold(String readme) throws ReflectiveOperationException {
        for (Method method : ResampledRows.class.getDeclaredMethods()) {
            if (Modifier.isPublic(method.getModifiers())) {
                dueTold(readme, "`" + method.getName() + "`");
            }
        }
        for (Field field : ResampledRows.class.getDeclaredFields()) {
            if (Modifier.isPublic(field.getModifiers())) {
                dueTold(readme, "`" + field.getName() + "` " + field.getInt(null));
            }
        }
    }

    private static void dueTold(String readme, String what) {
        Check.due("README.md tells " + what, readme.contains(what) ? 1 : 0, 1);
    }
}
