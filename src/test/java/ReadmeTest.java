import java.io.IOException;
import java.lang.reflect.Method;
import java.nio.file.Files;
import java.nio.file.Path;
import java.util.List;
import java.util.regex.Matcher;
import java.util.regex.Pattern;

/** README.md: its calls answer as it stands behind them, and it tells of each call how it is called. */
public final class ReadmeTest {
    private static final Pattern CALL = Pattern.compile("nests\\.(\\w+)\\((.*)\\); +// (-?\\d+)(?: .*)?");
    private static final String NEW = "NestsByKnots nests = new NestsByKnots();";
    private static final String FENCE = "```";

    public static void main(String[] args) throws IOException, ReflectiveOperationException {
        List<String> lines = Files.readAllLines(Path.of("README.md"));
        Due.is("calls in README.md that were looked at", calls(lines) >= 39 ? 1 : 0, 1);
        table(lines);
        Due.end("ReadmeTest");
    }

    /** How many calls stand in the blocks of code; each begins with a new object. */
    private static int calls(List<String> lines) throws ReflectiveOperationException {
        int calls = 0;
        boolean code = false;
        NestsByKnots nests = new NestsByKnots();
        for (String line : lines) {
            if (line.startsWith(FENCE)) {
                code = line.equals(FENCE + "java");
            } else if (code && line.equals(NEW)) {
                nests = new NestsByKnots();
            } else if (code) {
                Matcher call = CALL.matcher(line);
                Due.is("a call with its answer: " + line, call.matches() ? 1 : 0, 1);
                if (call.matches()) {
                    Due.is("README.md: " + line, answer(nests, call.group(1), call.group(2)), Long.parseLong(call.group(3)));
                    calls++;
                }
            }
        }
        return calls;
    }

    private static long answer(NestsByKnots nests, String name, String given) throws ReflectiveOperationException {
        String[] numbers = given.isEmpty() ? new String[0] : given.split(", ");
        Method method = method(name);
        Object[] values = new Object[numbers.length];
        for (int i = 0; i < numbers.length; i++) {
            long value = Long.decode(numbers[i].replace("L", ""));
            // apart, since ?: would make both of them longs
            if (method.getParameterTypes()[i] == long.class) {
                values[i] = value;
            } else {
                values[i] = (int) value;
            }
        }
        return ((Number) method.invoke(nests, values)).longValue();
    }

    private static Method method(String name) {
        for (Method method : NestsByKnots.class.getMethods()) {
            if (method.getName().equals(name)) {
                return method;
            }
        }
        throw new IllegalArgumentException("no method " + name);
    }

    /** Each method stands in the table, with as many numbers as it is given. */
    private static void table(List<String> lines) {
        for (Method method : NestsByKnots.class.getMethods()) {
            if (method.getDeclaringClass() == NestsByKnots.class) {
                int given = method.getParameterCount();
                String numbers = given == 0 ? "" : "\\w+(, \\w+){" + (given - 1) + "}";
                Pattern row = Pattern.compile("\\| `" + method.getName() + "\\(" + numbers + "\\)` \\|.*");
                long rows = lines.stream().filter(line -> row.matcher(line).matches()).count();
                Due.is("README.md tells of " + method, rows, 1);
            }
        }
    }
}
