import java.io.IOException;
import java.lang.reflect.InvocationTargetException;
import java.lang.reflect.Method;
import java.nio.file.Files;
import java.nio.file.Path;
import java.util.regex.Matcher;
import java.util.regex.Pattern;

/** The example of README.md: each of its calls is made, and answers what the page tells behind it. */
public final class ReadmeTest {
    private static final Check CHECK = new Check();
    private static final Pattern CALL = Pattern.compile("    fleet\\.(\\w+)\\((.*)\\); *// (.*)");
    private static final Pattern ANSWER = Pattern.compile("answers (-?\\w+).*");

    public static void main(String[] args) throws IOException, ReflectiveOperationException {
        ResolverFleet fleet = new ResolverFleet();
        int calls = 0;
        int lines = 0;
        for (String line : Files.readAllLines(Path.of("README.md"))) {
            if (!line.startsWith("    fleet.")) {
                continue;
            }
            lines++;
            Matcher call = CALL.matcher(line);
            if (call.matches()) {
                make(fleet, call.group(1), call.group(2), call.group(3));
                calls++;
            }
        }
        CHECK.same("the page has an example", lines > 0, true);
        CHECK.same("the calls that could be read", calls, lines);
        CHECK.finish();
    }

    private static void make(ResolverFleet fleet, String name, String arguments, String told)
            throws ReflectiveOperationException {
        String call = name + "(" + arguments + ")";
        Method method = methodNamed(name);
        CHECK.same(call + " is a call of the face", method != null, true);
        if (method == null) {
            return;
        }
        Matcher answer = ANSWER.matcher(told);
        boolean isTold = answer.matches();
        CHECK.same("the page tells an answer of " + call, isTold, method.getReturnType() != void.class);
        CHECK.same(call, answerOf(fleet, method, arguments), isTold ? answer.group(1) : "null");
    }

    private static Method methodNamed(String name) {
        for (Method method : ResolverFleet.class.getMethods()) {
            if (method.getName().equals(name) && method.getDeclaringClass() == ResolverFleet.class) {
                return method;
            }
        }
        return null;
    }

    private static String answerOf(ResolverFleet fleet, Method method, String arguments)
            throws ReflectiveOperationException {
        String[] texts = arguments.isEmpty() ? new String[0] : arguments.split(", ");
        Class<?>[] types = method.getParameterTypes();
        if (texts.length != types.length) {
            return "nothing, as it has other arguments";
        }
        Object[] values = new Object[texts.length];
        for (int i = 0; i < texts.length; i++) {
            values[i] = types[i] == boolean.class ? (Object) Boolean.valueOf(texts[i]) : (Object) Integer.valueOf(texts[i]);
        }
        try {
            return String.valueOf(method.invoke(fleet, values));
        } catch (InvocationTargetException e) {
            return e.getCause().toString();
        }
    }
}
