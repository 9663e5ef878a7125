import java.io.IOException;
import java.lang.reflect.Method;
import java.nio.file.Files;
import java.nio.file.Path;
import java.util.regex.Matcher;
import java.util.regex.Pattern;

/** What README.md shows under "Use" is what the class answers, call by call on one object. */
public final class ReadmeTest {
    private static final Pattern EXAMPLE = Pattern.compile("(?s)```java\n(.*?)```");
    private static final Pattern TEXT = Pattern.compile("for \\(char c : \"([^\"]*)\"");
    private static final Pattern CALL = Pattern.compile("folk\\.(\\w+)\\(([-0-9, ]*)\\); *(// (-?\\d+):)?");

    private static int checked = 0;
    private static int wrong = 0;

    private static void fail(String what) {
        wrong++;
        System.out.println(what);
    }

    private static Method named(String name) {
        for (Method m : FriezeFolk.class.getMethods()) {
            if (m.getDeclaringClass() == FriezeFolk.class && m.getName().equals(name)) {
                return m;
            }
        }
        return null;
    }

    private static Object[] numbers(String list) {
        return list.isBlank() ? new Object[0]
            : Pattern.compile(",").splitAsStream(list).map(n -> (Object) Integer.valueOf(n.trim())).toArray();
    }

    private static void line(FriezeFolk folk, String line) throws ReflectiveOperationException {
        Matcher text = TEXT.matcher(line);
        if (text.find()) {
            text.group(1).chars().forEach(folk::feed);
        }
        Matcher call = CALL.matcher(line);
        if (!call.find()) {
            return;
        }
        Method method = named(call.group(1));
        Object[] arguments = numbers(call.group(2));
        if (method == null || method.getParameterCount() != arguments.length || call.group(4) == null) {
            fail("no call with its answer: " + line);
            return;
        }
        checked++;
        long got = ((Number) method.invoke(folk, arguments)).longValue();
        if (got != Long.parseLong(call.group(4))) {
            fail("answered " + got + ": " + line);
        }
    }

    public static void main(String[] args) throws IOException, ReflectiveOperationException {
        Matcher example = EXAMPLE.matcher(Files.readString(Path.of("README.md")));
        while (example.find()) {
            FriezeFolk folk = new FriezeFolk();
            for (String line : example.group(1).split("\n")) {
                line(folk, line);
            }
        }
        if (checked == 0) {
            fail("README.md shows no call");
        }
        System.out.println(wrong == 0 ? checked + " calls are as README.md shows them" : wrong + " are not as shown");
        if (wrong != 0) {
            System.exit(1);
        }
    }
}
