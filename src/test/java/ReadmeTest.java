import java.io.IOException;
import java.lang.reflect.InvocationTargetException;
import java.lang.reflect.Method;
import java.nio.file.Files;
import java.nio.file.Path;
import java.util.regex.Matcher;
import java.util.regex.Pattern;

/** Does the calls of README.md's example; each answers what the comment behind it begins with. */
public final class ReadmeTest {
    private static final Pattern CALL = Pattern.compile("m\\.(\\w+)\\((.*)\\);( +// (-?\\w+).*)?");
    private static final int CALLS = 22;

    public static void main(String[] args) throws IOException {
        Due due = new Due("ReadmeTest");
        RvMachine m = new RvMachine();
        int calls = 0;
        for (String line : Files.readAllLines(Path.of("README.md"))) {
            Matcher call = CALL.matcher(line);
            if (call.matches()) {
                calls++;
                String want = call.group(4) == null ? "null" : call.group(4);
                due.isSame(line, answer(m, call.group(1), call.group(2)), want);
            }
        }
        due.is("calls of the example", calls, CALLS);
        due.end();
    }

    private static String answer(RvMachine m, String name, String arguments) {
        for (Method method : RvMachine.class.getMethods()) {
            if (method.getName().equals(name) && method.getDeclaringClass() == RvMachine.class) {
                return answer(m, method, arguments.isEmpty() ? new String[0] : arguments.split(", "));
            }
        }
        return "no such call";
    }

    private static String answer(RvMachine m, Method method, String[] arguments) {
        Object[] values = new Object[arguments.length];
        for (int i = 0; i < values.length; i++) {
            boolean wide = method.getParameterTypes()[i] == long.class;
            values[i] = wide ? (Object) sum(arguments[i]) : (Object) (int) sum(arguments[i]);
        }
        try {
            return "" + method.invoke(m, values);
        } catch (InvocationTargetException e) {
            return e.getCause().getClass().getSimpleName();
        } catch (IllegalAccessException e) {
            return "no public call";
        }
    }

    private static long sum(String terms) {
        long sum = 0;
        for (String term : terms.split(" \\+ ")) {
            sum += Long.decode(term);
        }
        return sum;
    }
}
