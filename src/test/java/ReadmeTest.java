import java.io.IOException;
import java.lang.reflect.Method;
import java.nio.file.Files;
import java.nio.file.Path;
import java.util.regex.Matcher;
import java.util.regex.Pattern;

/** The run of calls in README.md answers what README.md says there, and each call of the face is told of. */
public final class ReadmeTest {
    private static final Pattern CALL = Pattern.compile("x\\.(\\w+)\\((.*)\\); +// (-?\\d+): .*");

    private final Checks checks = new Checks();
    private final ClassShape x = new ClassShape();

    public static void main(String[] args) throws IOException, ReflectiveOperationException {
        new ReadmeTest().run(Files.readString(Path.of("README.md")));
    }

    private void run(String readme) throws ReflectiveOperationException {
        for (String line : readme.split("\n")) {
            if (line.startsWith("x.")) {
                call(line);
            }
        }
        checks.due("the run was found", x.count(2) > 0);
        for (Method method : ClassShape.class.getMethods()) {
            if (method.getDeclaringClass() == ClassShape.class) {
                String row = "| `" + method.getName() + "(";
                checks.due("a row that begins " + row, readme.contains(row));
            }
        }
        checks.finish("ReadmeTest");
    }

    private void call(String line) throws ReflectiveOperationException {
        Matcher call = CALL.matcher(line);
        boolean isCall = call.matches();
        checks.due(line + ": a call with its answer", isCall);
        if (isCall) {
            checks.due(line, answer(call.group(1), call.group(2)), Long.parseLong(call.group(3)));
        }
    }

    private int answer(String name, String values) throws ReflectiveOperationException {
        String[] written = values.isEmpty() ? new String[0] : values.split(", ");
        for (Method method : ClassShape.class.getMethods()) {
            if (method.getName().equals(name)) {
                Object[] taken = new Object[written.length];
                for (int i = 0; i < taken.length; i++) {
                    taken[i] = value(written[i], method.getParameterTypes()[i]);
                }
                return (int) method.invoke(x, taken);
            }
        }
        throw new NoSuchMethodException(name);
    }

    private static Object value(String written, Class<?> type) {
        long value = Long.decode(written);
        if (type == long.class) {
            return value;
        }
        return (int) value;
    }
}
