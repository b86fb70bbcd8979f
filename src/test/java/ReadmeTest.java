import java.io.IOException;
import java.lang.reflect.Method;
import java.lang.reflect.Modifier;
import java.nio.file.Files;
import java.nio.file.Path;
import java.util.List;
import java.util.regex.Matcher;
import java.util.regex.Pattern;

/** README.md tells the truth: its example answers what it says, its table has every call. */
public final class ReadmeTest {
    private static final Pattern CALL =
        Pattern.compile("volume\\.(\\w+)\\(([^)]*)\\);\\s*// (\\w+)(:.*)?");
    private static final int CALLS_IN_EXAMPLE = 13;

    private static final Checks checks = new Checks("ReadmeTest");

    public static void main(String[] args) throws IOException, ReflectiveOperationException {
        List<String> lines = Files.readAllLines(Path.of("README.md"));
        example(lines);
        table(lines);
        checks.end();
    }

    private static void example(List<String> lines) throws ReflectiveOperationException {
        checks.part("the example");
        StripedKeyVolume volume = new StripedKeyVolume();
        int calls = 0;
        for (String line : lines) {
            if (line.startsWith("volume.")) {
                Matcher call = CALL.matcher(line);
                checks.due("'" + line + "' is a call with its answer", call.matches(), true);
                if (call.matches()) {
                    checks.due(line, answer(volume, call.group(1), call.group(2)), meant(call.group(3)));
                    calls++;
                }
            }
        }
        checks.due("calls in the example", calls, CALLS_IN_EXAMPLE);
    }

    private static long answer(StripedKeyVolume volume, String name, String arguments)
            throws ReflectiveOperationException {
        String[] texts = arguments.isEmpty() ? new String[0] : arguments.split(", ");
        Object[] values = new Object[texts.length];
        Class<?>[] types = new Class<?>[texts.length];
        for (int i = 0; i < texts.length; i++) {
            values[i] = Integer.valueOf(texts[i]);
            types[i] = int.class;
        }
        Object got = StripedKeyVolume.class.getMethod(name, types).invoke(volume, values);
        return got instanceof Boolean is ? (is ? 1 : 0) : ((Number) got).longValue();
    }

    private static long meant(String answer) throws ReflectiveOperationException {
        if (answer.equals("true")) {
            return 1;
        }
        return Character.isDigit(answer.charAt(0))
            ? Long.parseLong(answer)
            : StripedKeyVolume.class.getField(answer).getInt(null);
    }

    private static void table(List<String> lines) {
        checks.part("the table");
        for (Method method : StripedKeyVolume.class.getDeclaredMethods()) {
            if (Modifier.isPublic(method.getModifiers())) {
                String row = "| `" + method.getName() + "(";
                long rows = lines.stream().filter(line -> line.startsWith(row)).count();
                checks.due("rows for " + method.getName(), rows, 1);
            }
        }
    }
}
