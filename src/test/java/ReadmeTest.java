import java.lang.reflect.Method;
import java.lang.reflect.Modifier;
import java.nio.file.Files;
import java.nio.file.Path;
import java.util.List;
import java.util.regex.Matcher;
import java.util.regex.Pattern;

/** README.md: its run of calls answers as it says there, and no call of the face is left out. */
public final class ReadmeTest {
    private static final Check CHECK = new Check("ReadmeTest");
    private static final String MADE = "LineBlocks x = new LineBlocks();";
    private static final Pattern CALL =
            Pattern.compile("x\\.(\\w+)\\((.*)\\); +// (-?\\d+|[A-Z]+)(:.*)?");

    public static void main(String[] args) throws Exception {
        List<String> lines = Files.readAllLines(Path.of("README.md"));
        runAnswersAsWritten(lines);
        everyCallHasARow(lines);
        CHECK.end();
    }

    private static void runAnswersAsWritten(List<String> lines) throws Exception {
        int from = lines.indexOf("```java") + 1;
        CHECK.isTrue("the run begins with a new object", lines.get(from).equals(MADE));
        LineBlocks x = new LineBlocks();
        for (int k = from + 1; !lines.get(k).equals("```"); k++) {
            Matcher call = CALL.matcher(lines.get(k));
            if (call.matches()) {
                CHECK.due(lines.get(k), answer(x, call.group(1), call.group(2)),
                        number(call.group(3)));
            } else {
                CHECK.isTrue("a call and its answer: " + lines.get(k), false);
            }
        }
    }

    private static long answer(LineBlocks x, String name, String written) throws Exception {
        String[] numbers = written.isEmpty() ? new String[0] : written.split(", ");
        Method method = named(name);
        Object[] given = new Object[numbers.length];
        for (int k = 0; k < numbers.length; k++) {
            boolean isLong = method.getParameterTypes()[k] == long.class;
            given[k] = isLong ? (Object) Long.decode(numbers[k]) : Integer.decode(numbers[k]);
        }
        return ((Number) method.invoke(x, given)).longValue();
    }

    private static Method named(String name) {
        for (Method method : LineBlocks.class.getDeclaredMethods()) {
            if (method.getName().equals(name)) {
                return method;
            }
        }
        throw new IllegalStateException("README.md calls " + name + ", which is not there");
    }

    private static long number(String written) throws Exception {
        boolean isName = Character.isUpperCase(written.charAt(0));
        return isName ? LineBlocks.class.getField(written).getInt(null) : Long.parseLong(written);
    }

    private static void everyCallHasARow(List<String> lines) {
        for (Method method : LineBlocks.class.getDeclaredMethods()) {
            if (Modifier.isPublic(method.getModifiers())) {
                String row = "| `" + method.getName() + "(";
                CHECK.isTrue("a row for " + method.getName(),
                        lines.stream().anyMatch(line -> line.startsWith(row)));
            }
        }
    }
}
