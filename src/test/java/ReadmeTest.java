import java.io.IOException;
import java.lang.reflect.InvocationTargetException;
import java.lang.reflect.Method;
import java.lang.reflect.Modifier;
import java.nio.file.Files;
import java.nio.file.Path;
import java.util.regex.Matcher;
import java.util.regex.Pattern;

/** README.md tells how to use the class: its example is run as it stands there, call by call. */
public final class ReadmeTest {
    private static final Due due = new Due();
    private static final Pattern ALBUM = Pattern.compile("\"(\\w+)\"\\.toCharArray");
    private static final Pattern CALL = Pattern.compile("^post\\.(\\w+)\\((.*?)\\); +// (-?\\d+):", Pattern.MULTILINE);

    public static void main(String[] args) throws IOException, ReflectiveOperationException {
        String readme = Files.readString(Path.of("README.md"));
        example(javaOf(readme));
        everyCallIsNamed(readme);
        due.is("how to run the tests", readme.contains("\n.ci/run\n") ? 1 : 0, 1);
        due.end();
    }

    private static String javaOf(String readme) {
        int begin = readme.indexOf("```java\n");
        int end = readme.indexOf("```\n", begin + 1);
        return begin < 0 || end < 0 ? "" : readme.substring(begin, end);
    }

    private static void example(String code) throws IllegalAccessException, InvocationTargetException {
        AgingStamps post = new AgingStamps();
        Matcher album = ALBUM.matcher(code);
        due.is("README.md has an album", album.find() ? 1 : 0, 1);
        Due.text(post, album.group(1));
        Matcher call = CALL.matcher(code);
        int calls = 0;
        while (call.find()) {
            calls++;
            due.is("README.md: " + call.group(), answer(post, call.group(1), call.group(2)), Long.parseLong(call.group(3)));
        }
        long told = code.lines().filter(line -> line.startsWith("post.")).count();
        due.is("calls of README.md whose answer is told", calls, told);
        due.is("README.md has calls", calls > 0 ? 1 : 0, 1);
    }

    private static long answer(AgingStamps post, String name, String told)
            throws IllegalAccessException, InvocationTargetException {
        String[] parts = told.isEmpty() ? new String[0] : told.split(", ");
        for (Method m : AgingStamps.class.getMethods()) {
            if (m.getName().equals(name) && m.getParameterCount() == parts.length) {
                Object[] values = new Object[parts.length];
                for (int i = 0; i < parts.length; i++) {
                    values[i] = value(m.getParameterTypes()[i], parts[i]);
                }
                return ((Number) m.invoke(post, values)).longValue();
            }
        }
        due.is("there is no call " + name + " with " + parts.length, 1, 0);
        return 0;
    }

    private static Object value(Class<?> type, String told) {
        if (type == boolean.class) {
            return Boolean.valueOf(told);
        }
        return type == long.class ? (Object) Long.valueOf(told.replace("L", "")) : (Object) Integer.valueOf(told);
    }

    private static void everyCallIsNamed(String readme) {
        for (Method m : AgingStamps.class.getDeclaredMethods()) {
            if (Modifier.isPublic(m.getModifiers())) {
                due.is("README.md names " + m.getName(), readme.contains("`" + m.getName() + "`") ? 1 : 0, 1);
            }
        }
    }
}
