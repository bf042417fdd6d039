import java.io.IOException;
import java.lang.reflect.Method;
import java.nio.charset.StandardCharsets;
import java.nio.file.Files;
import java.nio.file.Path;
import java.util.regex.Matcher;
import java.util.regex.Pattern;

/** The example of README.md, line by line: each call answers what stands behind it. */
public final class ReadmeTest {
    private static final Pattern MADE = Pattern.compile("RelativeFiles file = new RelativeFiles\\((\\d+)\\);.*");
    private static final Pattern CALL = Pattern.compile("file\\.(\\w+)\\((.*)\\); *// (-?\\d+): .*");

    private static int wrong = 0;

    private static void complain(String what) {
        wrong++;
        System.out.println("README.md: " + what);
    }

    private static String[] example() throws IOException {
        String text = Files.readString(Path.of("README.md"), StandardCharsets.UTF_8);
        int from = text.indexOf("```java\n");
        int to = text.indexOf("```\n", from + 1);
        return from < 0 || to < 0 ? new String[0] : text.substring(from + "```java\n".length(), to).split("\n");
    }

    private static Method method(String name) {
        for (Method method : RelativeFiles.class.getMethods()) {
            if (method.getName().equals(name)) {
                return method;
            }
        }
        throw new IllegalArgumentException("no method " + name);
    }

    private static Object argument(Class<?> type, String text) {
        if (type == boolean.class) {
            return Boolean.valueOf(text);
        }
        long number = text.equals("RelativeFiles.NONE") ? RelativeFiles.NONE : Long.parseLong(text);
        if (type == long.class) {
            return number;
        }
        return (int) number;
    }

    private static long answer(RelativeFiles file, String name, String told) throws ReflectiveOperationException {
        Method method = method(name);
        Class<?>[] types = method.getParameterTypes();
        String[] texts = told.split(", ");
        Object[] arguments = new Object[types.length];
        for (int i = 0; i < types.length; i++) {
            arguments[i] = argument(types[i], texts[i]);
        }
        return ((Number) method.invoke(file, arguments)).longValue();
    }

    public static void main(String[] args) throws Exception {
        RelativeFiles file = null;
        int calls = 0;
        for (String line : example()) {
            Matcher made = MADE.matcher(line);
            Matcher call = CALL.matcher(line);
            if (made.matches()) {
                file = new RelativeFiles(Integer.parseInt(made.group(1)));
            } else if (file != null && call.matches()) {
                calls++;
                long got = answer(file, call.group(1), call.group(2));
                if (got != Long.parseLong(call.group(3))) {
                    complain(line + " answered " + got);
                }
            } else {
                complain("no call with its answer: " + line);
            }
        }
        if (calls == 0) {
            complain("no example");
        }
        System.out.println(wrong == 0 ? "all " + calls + " calls of the example answer as told" : wrong + " are wrong");
        if (wrong != 0) {
            System.exit(1);
        }
    }
}
