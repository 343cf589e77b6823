import java.io.IOException;
import java.lang.reflect.InvocationTargetException;
import java.lang.reflect.Method;
import java.nio.file.Files;
import java.nio.file.Path;
import java.util.regex.Matcher;
import java.util.regex.Pattern;

/** README.md says what the class does: its calls answer what stands behind them. */
public final class ReadmeTests {
    private static final Check check = new Check();
    private static final Pattern CALL = Pattern.compile("x\\.(\\w+)\\((.*)\\); +// (-?\\w+).*");
    private static final Pattern GIVE = Pattern.compile("give\\(x, \"(.*)\"\\); +// (\\w+)");

    public static void main(String[] args) throws IOException, ReflectiveOperationException {
        String readme = Files.readString(Path.of("README.md"));
        example(readme);
        table(readme);
        check.due("it says how tests are run", readme.contains("\n.ci/run\n"), true);
        check.end();
    }

    private static void example(String readme) throws ReflectiveOperationException {
        PolicyText x = new PolicyText();
        int calls = 0;
        for (String line : readme.split("\n")) {
            Matcher call = CALL.matcher(line);
            Matcher give = GIVE.matcher(line);
            if (call.matches()) {
                calls++;
                check.due(line, answerOf(x, call.group(1), call.group(2)), call.group(3));
            } else if (give.matches()) {
                calls++;
                check.due(line, String.valueOf(Check.give(x, give.group(1))), give.group(2));
            }
        }
        check.due("calls in the example", calls, 31);
    }

    private static String answerOf(PolicyText x, String name, String written)
            throws IllegalAccessException, InvocationTargetException {
        Method method = methodOf(name);
        String[] words = written.isEmpty() ? new String[0] : written.split(", ");
        Object[] arguments = new Object[words.length];
        for (int i = 0; i < words.length; i++) {
            boolean logical = method.getParameterTypes()[i] == boolean.class;
            arguments[i] = logical ? (Object) Boolean.valueOf(words[i]) : (Object) Integer.valueOf(words[i]);
        }
        return String.valueOf(method.invoke(x, arguments));
    }

    private static Method methodOf(String name) {
        for (Method method : PolicyText.class.getDeclaredMethods()) {
            if (method.getName().equals(name)) {
                return method;
            }
        }
        throw new IllegalStateException("no method " + name);
    }

    /** Each method of the face has a row, with as many parameters as it takes. */
    private static void table(String readme) {
        check.due("a row for new PolicyText()", readme.contains("\n| `new PolicyText()` | "), true);
        for (Method method : PolicyText.class.getDeclaredMethods()) {
            Matcher row = Pattern.compile("\n\\| `" + method.getName() + "\\((.*?)\\)` \\| ").matcher(readme);
            boolean found = row.find();
            check.due("a row for " + method.getName(), found, true);
            if (found) {
                int parameters = row.group(1).isEmpty() ? 0 : row.group(1).split(", ").length;
                check.due("parameters of " + method.getName(), parameters, method.getParameterCount());
            }
        }
    }
}
