import java.io.IOException;
import java.lang.reflect.Method;
import java.nio.file.Files;
import java.nio.file.Path;
import java.util.List;
import java.util.regex.Matcher;
import java.util.regex.Pattern;

/** The example of README.md answers what stands behind its calls, and the table there names every call. */
final class ReadmeTest {
    private static final Check CHECK = new Check();
    private static final Pattern CALL = Pattern.compile("net\\.(\\w+)\\((.*?)\\); +// ([^:]+)(:.*)?");

    public static void main(String[] args) throws IOException, ReflectiveOperationException {
        List<String> rows = Files.readAllLines(Path.of("README.md"));
        example(rows);
        everyCall(rows);
        CHECK.end();
    }

    private static void example(List<String> rows) throws ReflectiveOperationException {
        StormBasin net = new StormBasin();
        int calls = 0;
        for (String row : rows) {
            Matcher call = CALL.matcher(row);
            if (call.matches()) {
                calls++;
                CHECK.same(row, answer(net, call.group(1), call.group(2)), call.group(3));
            } else {
                CHECK.same("a call without an answer: " + row, row.startsWith("net."), false);
            }
        }
        CHECK.same("an example is there", calls > 0, true);
    }

    private static String answer(StormBasin net, String name, String arguments) throws ReflectiveOperationException {
        Method method = methodOf(name);
        Object[] values = new Object[method.getParameterCount()];
        String[] texts = arguments.isEmpty() ? new String[0] : arguments.split(", ");
        if (texts.length != values.length) {
            return "nothing, as it has " + values.length + " arguments";
        }
        for (int i = 0; i < values.length; i++) {
            boolean isFlag = method.getParameterTypes()[i] == boolean.class;
            values[i] = isFlag ? (Object) Boolean.valueOf(texts[i]) : (Object) numberOf(texts[i]);
        }
        return String.valueOf(method.invoke(net, values));
    }

    private static Method methodOf(String name) throws NoSuchMethodException {
        for (Method method : StormBasin.class.getDeclaredMethods()) {
            if (method.getName().equals(name)) {
                return method;
            }
        }
        throw new NoSuchMethodException(name);
    }

    private static Integer numberOf(String text) {
        return text.equals("StormBasin.NONE") ? StormBasin.NONE : Integer.parseInt(text);
    }

    private static void everyCall(List<String> rows) {
        for (Method method : StormBasin.class.getMethods()) {
            if (method.getDeclaringClass() == StormBasin.class) {
                String name = "`" + method.getName() + "`";
                boolean isNamed = rows.stream().anyMatch(row -> row.startsWith("| `") && row.contains(name));
                CHECK.same(name + " is in the table", isNamed, true);
            }
        }
    }
}
