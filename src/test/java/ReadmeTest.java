import java.io.IOException;
import java.lang.reflect.InvocationTargetException;
import java.lang.reflect.Method;
import java.nio.charset.StandardCharsets;
import java.nio.file.Files;
import java.nio.file.Paths;
import java.util.regex.Matcher;
import java.util.regex.Pattern;

/** The examples of README.md: each call that stands there answers what stands behind it. */
public final class ReadmeTest {
    private static final Pattern NEW = Pattern.compile("CuckooShares x = new CuckooShares\\(\\);");
    private static final Pattern PUT = Pattern.compile("put\\(x, \"([^\"]*)\"\\);");
    private static final Pattern CALL = Pattern.compile("x\\.(\\w+)\\(([-0-9, ]*)\\); +// (-?\\w+)(:.*)?");
    private static final int CALLS_LEAST = 30;
    private static final Check CHECK = new Check();

    private CuckooShares x;
    private boolean inExample;
    private int calls;

    public static void main(String[] args) throws IOException, IllegalAccessException {
        ReadmeTest test = new ReadmeTest();
        for (String line : Files.readAllLines(Paths.get("README.md"), StandardCharsets.UTF_8)) {
            test.read(line);
        }
        CHECK.due(test.calls + " calls are enough", test.calls >= CALLS_LEAST, true);
        CHECK.end();
    }

    private void read(String line) throws IllegalAccessException {
        if (line.startsWith("```")) {
            inExample = line.equals("```java");
            return;
        }
        Matcher put = PUT.matcher(line);
        Matcher call = CALL.matcher(line);
        if (!inExample) {
            return;
        }
        if (NEW.matcher(line).matches()) {
            x = new CuckooShares();
        } else if (put.matches()) {
            Check.put(x, put.group(1));
        } else if (call.matches()) {
            CHECK.due(line, answer(call.group(1), call.group(2)), call.group(3));
            calls++;
        } else {
            // The helper's lines are no example: they are indented, but for its first and last.
            CHECK.due("a line that can be read: " + line, line.startsWith("x.") || line.startsWith("put("), false);
        }
    }

    private String answer(String name, String numbers) throws IllegalAccessException {
        String[] told = numbers.isEmpty() ? new String[0] : numbers.split(", ");
        Object[] values = new Object[told.length];
        for (int i = 0; i < told.length; i++) {
            values[i] = Integer.valueOf(told[i]);
        }
        for (Method method : CuckooShares.class.getMethods()) {
            if (method.getName().equals(name) && method.getParameterCount() == values.length) {
                try {
                    return String.valueOf(method.invoke(x, values));
                } catch (InvocationTargetException e) {
                    return e.getCause().getClass().getSimpleName();
                }
            }
        }
        return "no such call";
    }
}
