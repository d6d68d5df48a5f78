import java.io.IOException;
import java.lang.reflect.InvocationTargetException;
import java.lang.reflect.Method;
import java.nio.file.Files;
import java.nio.file.Path;
import java.util.regex.Matcher;
import java.util.regex.Pattern;

/** The calls that README.md shows are answered as it says there; .ci/run starts this in the project's folder. */
public final class ReadmeTest {
    private static final Pattern CALL = Pattern.compile("receiver\\.(\\w+)\\((.*)\\); +// (-?\\d+|true|false)\\b.*");

    private ReadmeTest() {
    }

    public static void main(String[] args) throws IOException, ReflectiveOperationException {
        PageReceiver receiver = new PageReceiver(4);
        for (String line : Files.readAllLines(Path.of("README.md"))) {
            if (line.startsWith("receiver.")) {
                ask(receiver, line);
            }
        }
        Check.finish();
    }

    private static void ask(PageReceiver receiver, String line)
            throws IllegalAccessException, InvocationTargetException {
        Matcher call = CALL.matcher(line);
        Check.due("has the form of a call with its answer: " + line, call.matches(), true);
        if (call.matches()) {
            Method method = methodNamed(call.group(1));
            Object answer = method.invoke(receiver, arguments(method, call.group(2)));
            Check.due(line + " really answers " + answer, String.valueOf(answer).equals(call.group(3)), true);
        }
    }

    private static Method methodNamed(String name) {
        for (Method method : PageReceiver.class.getDeclaredMethods()) {
            if (method.getName().equals(name)) {
                return method;
            }
        }
        throw new IllegalArgumentException("no method " + name);
    }

    private static Object[] arguments(Method method, String written) {
        Class<?>[] types = method.getParameterTypes();
        Object[] arguments = new Object[types.length];
        String[] parts = written.split(", ");
        for (int i = 0; i < types.length; i++) {
            long value = value(parts[i]);
            if (types[i] == long.class) {
                arguments[i] = value;
            } else {
                arguments[i] = (int) value;
            }
        }
        return arguments;
    }

    private static long value(String written) {
        return written.startsWith("0x")
            ? Long.parseUnsignedLong(written.substring(2, written.length() - 1), 16)
            : Long.parseLong(written);
    }
}
