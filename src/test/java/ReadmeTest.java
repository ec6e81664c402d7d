import java.io.IOException;
import java.lang.reflect.Method;
import java.lang.reflect.Modifier;
import java.nio.file.Files;
import java.nio.file.Path;
import java.util.Set;
import java.util.TreeSet;
import java.util.regex.Matcher;
import java.util.regex.Pattern;

/** README.md tells the truth: its example answers what it says there, and it speaks of every call. */
final class ReadmeTest {
    private static final Due DUE = new Due("ReadmeTest");
    private static final Pattern TEXT = Pattern.compile("\"([^\"]*)\"\\.toCharArray");
    private static final Pattern CALL = Pattern.compile("^x\\.(\\w+)\\(([-\\d, ]*)\\);\\s*// (-?\\d+)\\b");

    public static void main(String[] args) throws IOException, ReflectiveOperationException {
        String readme = Files.readString(Path.of("README.md"));
        example(readme);
        speaksOfEveryCall(readme);
        DUE.end();
    }

    private static void example(String readme) throws ReflectiveOperationException {
        Matcher text = TEXT.matcher(readme);
        DUE.holds("there is an example", text.find());
        CowsOwed x = Due.page(text.group(1));
        Set<String> called = new TreeSet<>();
        for (String line : readme.split("\n")) {
            Matcher call = CALL.matcher(line);
            if (call.find()) {
                called.add(call.group(1));
                DUE.is(call.group(), answer(x, call.group(1), call.group(2)), Long.parseLong(call.group(3)));
            } else if (line.startsWith("x.")) {
                DUE.holds("an answer stands behind " + line, false);
            }
        }
        DUE.holds("the example has calls", called.contains("hills"));
    }

    private static long answer(CowsOwed x, String name, String numbers) throws ReflectiveOperationException {
        String[] each = numbers.isEmpty() ? new String[0] : numbers.split(", ");
        Class<?>[] types = new Class<?>[each.length];
        Object[] values = new Object[each.length];
        for (int i = 0; i < each.length; i++) {
            types[i] = int.class;
            values[i] = Integer.valueOf(each[i]);
        }
        return ((Number) CowsOwed.class.getMethod(name, types).invoke(x, values)).longValue();
    }

    private static void speaksOfEveryCall(String readme) {
        for (Method method : CowsOwed.class.getDeclaredMethods()) {
            if (Modifier.isPublic(method.getModifiers())) {
                DUE.holds("it speaks of " + method.getName(), readme.contains("`" + method.getName() + "("));
            }
        }
    }
}
