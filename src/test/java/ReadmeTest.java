import java.io.IOException;
import java.lang.reflect.InvocationTargetException;
import java.lang.reflect.Method;
import java.lang.reflect.Modifier;
import java.nio.file.Files;
import java.nio.file.Path;
import java.util.List;
import java.util.regex.Matcher;
import java.util.regex.Pattern;

/** README.md: its example answers what it says, and it tells of each method of the face. */
public final class ReadmeTest {
    // A call of the example, what is between its brackets, and behind // what it answers or throws.
    private static final Pattern CALL = Pattern.compile("keeper\\.(\\w+)\\((.*)\\); +// ([\\w.]+): .*");

    public static void main(String[] args) throws IOException {
        Checks checks = new Checks();
        List<String> lines = Files.readAllLines(Path.of("README.md"));
        exampleAnswersAsItSays(checks, lines);
        eachMethodIsTold(checks, lines);
        checks.end();
    }

    private static void exampleAnswersAsItSays(Checks checks, List<String> lines) {
        ReachKeeper keeper = new ReachKeeper();
        int calls = 0;
        for (String line : lines) {
            Matcher call = CALL.matcher(line);
            if (call.matches()) {
                calls++;
                checks.equal(line, call.group(3), () -> outcome(keeper, call.group(1), call.group(2)));
            }
        }
        long written = lines.stream().filter(line -> line.startsWith("keeper.")).count();
        int read = calls;
        checks.equal("every line of the example is a call with its answer", (int) written, () -> read);
        checks.equal("there is an example", true, () -> read > 0);
    }

    private static String outcome(ReachKeeper keeper, String name, String between) {
        String[] texts = between.isEmpty() ? new String[0] : between.split(", ");
        for (Method method : ReachKeeper.class.getMethods()) {
            if (method.getName().equals(name)) {
                return invoke(keeper, method, texts);
            }
        }
        return "no such method";
    }

    private static String invoke(ReachKeeper keeper, Method method, String[] texts) {
        Object[] values = new Object[texts.length];
        for (int i = 0; i < texts.length; i++) {
            boolean truth = method.getParameterTypes()[i] == boolean.class;
            values[i] = truth ? (Object) Boolean.valueOf(texts[i]) : (Object) Integer.valueOf(texts[i]);
        }
        try {
            return String.valueOf(method.invoke(keeper, values));
        } catch (InvocationTargetException e) {
            return e.getCause().getClass().getName().replace("java.lang.", "");
        } catch (IllegalAccessException e) {
            return "not public";
        }
    }

    /** As a row of its own in the table of the face. */
    private static void eachMethodIsTold(Checks checks, List<String> lines) {
        for (Method method : ReachKeeper.class.getDeclaredMethods()) {
            if (Modifier.isPublic(method.getModifiers())) {
                String start = "| `" + method.getReturnType() + " " + method.getName() + "(";
                checks.equal("README.md tells of " + method.getName(), 1L,
                        () -> lines.stream().filter(line -> line.startsWith(start)).count());
            }
        }
    }
}
