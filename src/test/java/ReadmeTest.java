import java.io.IOException;
import java.lang.reflect.InvocationTargetException;
import java.lang.reflect.Method;
import java.nio.file.Files;
import java.nio.file.Path;
import java.util.Arrays;
import java.util.regex.Matcher;
import java.util.regex.Pattern;

/** The example of README.md, call by call, as it is written there. */
public final class ReadmeTest {
    private static final Pattern CALL = Pattern.compile("x\\.(\\w+)\\(([^)]*)\\); +// (-?\\d+):.*");
    private static final Due due = new Due("ReadmeTest");

    public static void main(String[] args) throws IOException, ReflectiveOperationException {
        String readme = Files.readString(Path.of("README.md"));
        String example = readme.split("```java\n")[1].split("```")[0];
        OutOfPlace x = new OutOfPlace();
        int calls = 0;
        for (String line : example.split("\n")) {
            Matcher call = CALL.matcher(line);
            if (call.matches()) {
                due.is(line, answer(x, call.group(1), call.group(2)), Long.parseLong(call.group(3)));
                calls++;
            }
        }
        due.is("lines of the example that are calls, beside new", calls, example.split("\n").length - 1);
        everyCallIsTold(readme);
        due.end();
    }

    private static int answer(OutOfPlace x, String name, String args)
            throws IllegalAccessException, InvocationTargetException {
        String[] told = args.isEmpty() ? new String[0] : args.split(", ");
        for (Method method : OutOfPlace.class.getMethods()) {
            if (method.getName().equals(name) && method.getParameterCount() == told.length) {
                Object[] values = new Object[told.length];
                for (int i = 0; i < told.length; i++) {
                    boolean isLong = method.getParameterTypes()[i] == long.class;
                    Long value = Long.decode(told[i].replace("L", ""));
                    values[i] = isLong ? (Object) value : (Object) value.intValue();
                }
                return (Integer) method.invoke(x, values);
            }
        }
        due.is("there is a call " + name, 0, 1);
        return 0;
    }

    private static void everyCallIsTold(String readme) {
        Arrays.stream(OutOfPlace.class.getDeclaredMethods())
                .filter(method -> java.lang.reflect.Modifier.isPublic(method.getModifiers()))
                .forEach(method -> due.is("README tells " + method.getName(),
                        readme.contains("`" + method.getName() + "`") ? 1 : 0, 1));
    }
}
