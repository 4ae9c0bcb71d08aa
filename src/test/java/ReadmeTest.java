import java.io.IOException;
import java.lang.reflect.Method;
import java.nio.file.Files;
import java.nio.file.Path;
import java.util.HashSet;
import java.util.Set;
import java.util.regex.Matcher;
import java.util.regex.Pattern;

/** The calls of README.md's example, on one room, answer what stands behind each of them. */
public final class ReadmeTest {
    private static final Due due = new Due();
    private static final Pattern CALL = Pattern.compile("room\\.(\\w+)\\(([^)]*)\\); *// (-?\\d+).*");
    private static final int METHODS = 11;

    public static void main(String[] args) throws IOException, ReflectiveOperationException {
        MailRoom room = new MailRoom();
        Set<String> called = new HashSet<>();
        for (String line : Files.readAllLines(Path.of("README.md"))) {
            Matcher call = CALL.matcher(line);
            if (call.matches()) {
                called.add(call.group(1));
                due.is(line, answer(room, call.group(1), call.group(2).split(", ")), Long.parseLong(call.group(3)));
            }
        }
        due.is("methods that README.md calls", called.size(), METHODS);
        due.end();
    }

    private static long answer(MailRoom room, String name, String[] texts) throws ReflectiveOperationException {
        for (Method method : MailRoom.class.getMethods()) {
            if (method.getName().equals(name) && method.getDeclaringClass() == MailRoom.class) {
                return ((Number) method.invoke(room, numbers(method.getParameterTypes(), texts))).longValue();
            }
        }
        throw new NoSuchMethodException(name);
    }

    private static Object[] numbers(Class<?>[] types, String[] texts) {
        Object[] numbers = new Object[types.length];
        for (int i = 0; i < types.length; i++) {
            numbers[i] = types[i] == long.class ? (Object) Long.valueOf(texts[i]) : Integer.valueOf(texts[i]);
        }
        return numbers;
    }
}
