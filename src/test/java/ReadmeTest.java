import java.io.IOException;
import java.lang.reflect.Method;
import java.nio.file.Files;
import java.nio.file.Path;
import java.util.Set;
import java.util.TreeSet;
import java.util.regex.Matcher;
import java.util.regex.Pattern;

/** The calls in README.md are answered as the comments behind them say. */
public final class ReadmeTest {
    private static final Pattern CALL =
        Pattern.compile("bench\\.(\\w+)\\((.*?)\\);\\s+// (-?\\d+): .*");

    private final Due due = new Due("README.md");
    private final SpliceBench bench = new SpliceBench();
    private final Set<String> called = new TreeSet<>();

    public static void main(String[] args) throws IOException, ReflectiveOperationException {
        ReadmeTest test = new ReadmeTest();
        for (String line : Files.readAllLines(Path.of("README.md"))) {
            if (line.startsWith("bench.")) {
                test.askLine(line);
            }
        }
        test.askThatAllAreCalled();
        test.due.end();
    }

    private void askLine(String line) throws ReflectiveOperationException {
        Matcher call = CALL.matcher(line);
        boolean told = call.matches();
        due.is("the call and its answer can be read: " + line, told ? 1 : 0, 1);
        if (told) {
            called.add(call.group(1));
            due.is(line, answer(call.group(1), call.group(2)), Long.parseLong(call.group(3)));
        }
    }

    private long answer(String name, String text) throws ReflectiveOperationException {
        String[] words = text.isEmpty() ? new String[0] : text.split(", ");
        Method method = method(name);
        Object[] arguments = new Object[words.length];
        for (int k = 0; k < words.length; k++) {
            long value = Long.parseLong(words[k]);
            boolean narrow = method.getParameterTypes()[k] == int.class;
            arguments[k] = narrow ? (Object) (int) value : value;
        }
        return ((Number) method.invoke(bench, arguments)).longValue();
    }

    private static Method method(String name) throws NoSuchMethodException {
        for (Method method : SpliceBench.class.getDeclaredMethods()) {
            if (method.getName().equals(name)) {
                return method;
            }
        }
        throw new NoSuchMethodException(name);
    }

    private void askThatAllAreCalled() {
        for (Method method : SpliceBench.class.getMethods()) {
            if (method.getDeclaringClass() == SpliceBench.class) {
                due.is("README.md has a call of " + method.getName(),
                    called.contains(method.getName()) ? 1 : 0, 1);
            }
        }
    }
}
