import java.io.IOException;
import java.lang.reflect.Method;
import java.lang.reflect.Modifier;
import java.nio.file.Files;
import java.nio.file.Path;
import java.util.regex.Matcher;
import java.util.regex.Pattern;

/** README.md: its example answers as it says, and it names each call. */
public final class ReadmeTest {
    private static final Pattern CALL = Pattern.compile("roads\\.(\\w+)\\((.*)\\);\\s*// (-?\\d+)(:.*)?");

    private static Object argument(String told) {
        return told.matches("true|false") ? (Object) Boolean.valueOf(told) : (Object) Integer.decode(told);
    }

    private static int answer(TurningRoads roads, String name, String told) throws ReflectiveOperationException {
        String[] parts = told.isBlank() ? new String[0] : told.split("\\s*,\\s*");
        Object[] arguments = new Object[parts.length];
        for (int i = 0; i < parts.length; i++) {
            arguments[i] = argument(parts[i]);
        }
        for (Method method : TurningRoads.class.getMethods()) {
            if (method.getName().equals(name) && method.getParameterCount() == parts.length) {
                return (Integer) method.invoke(roads, arguments);
            }
        }
        throw new NoSuchMethodException(name);
    }

    public static void main(String[] args) throws IOException, ReflectiveOperationException {
        String readme = Files.readString(Path.of("README.md"));
        int begin = readme.indexOf("```java\n");
        String example = begin < 0 ? "" : readme.substring(begin + 8, readme.indexOf("```", begin + 8));
        TurningRoads roads = new TurningRoads();
        int calls = 0;
        for (String line : example.split("\n")) {
            Matcher call = CALL.matcher(line);
            if (call.matches()) {
                calls++;
                Check.due("README: " + line, answer(roads, call.group(1), call.group(2)), Integer.parseInt(call.group(3)));
            } else {
                Check.due("README: no answer in " + line, line.startsWith("roads.") ? 1 : 0, 0);
            }
        }
        Check.due("README has calls in its example", calls > 0 ? 1 : 0, 1);
        for (Method method : TurningRoads.class.getDeclaredMethods()) {
            boolean isFace = Modifier.isPublic(method.getModifiers());
            boolean named = readme.contains("`" + method.getName() + "`");
            Check.due("README names " + method.getName(), !isFace || named ? 1 : 0, 1);
        }
        Check.due("README tells how to run the tests", readme.contains(".ci/run") ? 1 : 0, 1);
        Check.finish();
    }
}
