import java.io.IOException;
import java.io.UncheckedIOException;
import java.lang.reflect.InvocationTargetException;
import java.lang.reflect.Method;
import java.nio.file.Files;
import java.nio.file.Path;
import java.util.List;
import java.util.Set;
import java.util.TreeSet;
import java.util.regex.Matcher;
import java.util.regex.Pattern;

/** The calls that README.md shows, made in their order, answer what it says behind them. */
public final class ReadmeTest {
    private static final Path README = Path.of("README.md");
    private static final Pattern SHOWN = Pattern.compile("x\\.(\\w+)\\((.*)\\); +// (-?\\w+).*");

    public static void main(String[] args) {
        Check.sentence("README.md says how to use the class", ReadmeTest::shownCallsAnswerAsShown);
        Check.sentence("README.md says what each call takes", ReadmeTest::everyCallHasItsRow);
        Check.end("README.md");
    }

    private static void shownCallsAnswerAsShown() {
        TimerWheels x = new TimerWheels();
        Set<String> called = new TreeSet<>();
        for (String line : lines()) {
            Matcher shown = SHOWN.matcher(line);
            if (shown.matches()) {
                called.add(shown.group(1));
                Check.same(line, answer(x, shown.group(1), shown.group(2)), shown.group(3));
            } else if (line.startsWith("x.")) {
                Check.same(line, "no answer behind it", "an answer behind it");
            }
        }
        Check.same("the calls shown", called.toString(), names().toString());
    }

    private static void everyCallHasItsRow() {
        for (String name : names()) {
            long rows = lines().stream().filter(line -> line.startsWith("| `" + name + "(")).count();
            Check.same("rows that tell of " + name, rows, 1);
        }
    }

    private static List<String> lines() {
        try {
            return Files.readAllLines(README);
        } catch (IOException e) {
            throw new UncheckedIOException(e);
        }
    }

    private static Set<String> names() {
        Set<String> names = new TreeSet<>();
        for (Method method : publicMethods()) {
            names.add(method.getName());
        }
        return names;
    }

    private static List<Method> publicMethods() {
        return List.of(TimerWheels.class.getMethods()).stream()
                .filter(method -> method.getDeclaringClass() == TimerWheels.class)
                .toList();
    }

    /** A number, or the plain name of what is thrown. */
    private static String answer(TimerWheels x, String name, String written) {
        Method method = publicMethods().stream()
                .filter(m -> m.getName().equals(name))
                .findFirst()
                .orElseThrow();
        try {
            return method.invoke(x, arguments(method, written)).toString();
        } catch (InvocationTargetException e) {
            return e.getCause().getClass().getSimpleName();
        } catch (IllegalAccessException e) {
            throw new IllegalStateException(e);
        }
    }

    private static Object[] arguments(Method method, String written) {
        Class<?>[] types = method.getParameterTypes();
        String[] texts = written.isEmpty() ? new String[0] : written.split(", ");
        Object[] arguments = new Object[texts.length];
        for (int i = 0; i < texts.length; i++) {
            long number = Long.parseLong(texts[i].replace("L", ""));
            arguments[i] = types[i] == long.class ? (Object) number : (Object) (int) number;
        }
        return arguments;
    }
}
