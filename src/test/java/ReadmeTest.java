import java.io.IOException;
import java.lang.reflect.Method;
import java.lang.reflect.Modifier;
import java.nio.file.Files;
import java.nio.file.Path;
import java.util.Set;
import java.util.TreeSet;
import java.util.regex.Matcher;
import java.util.regex.Pattern;

/** README.md tells the truth: its calls, one behind the other on one object, have the answers that stand there. */
public final class ReadmeTest {
    private static final Check check = new Check();
    private static final Pattern CALL = Pattern.compile("x\\.(\\w+)\\((.*?)\\);\\s*// (-?\\d+)(:.*)?");

    public static void main(String[] args) throws IOException, ReflectiveOperationException {
        WavePairs x = new WavePairs();
        Set<String> told = new TreeSet<>();
        for (String line : Files.readAllLines(Path.of("README.md"))) {
            Matcher m = CALL.matcher(line);
            if (m.matches()) {
                told.add(m.group(1));
                check.due(line, answer(x, m.group(1), m.group(2)), Integer.parseInt(m.group(3)));
            } else {
                check.yes("a call with its answer: " + line, !line.startsWith("x."));
            }
        }
        for (Method method : WavePairs.class.getDeclaredMethods()) {
            check.yes(method + " is told of",
                !Modifier.isPublic(method.getModifiers()) || told.contains(method.getName()));
        }
        check.end();
    }

    private static int answer(WavePairs x, String name, String numbers) throws ReflectiveOperationException {
        String[] given = numbers.isEmpty() ? new String[0] : numbers.split(",\\s*");
        for (Method method : WavePairs.class.getMethods()) {
            if (method.getName().equals(name) && method.getParameterCount() == given.length) {
                Object[] values = new Object[given.length];
                for (int i = 0; i < given.length; i++) {
                    long v = Long.decode(given[i].replace("_", "").replace("L", ""));
                    values[i] = method.getParameterTypes()[i] == long.class ? (Object) v : (Object) Math.toIntExact(v);
                }
                return (int) method.invoke(x, values);
            }
        }
        throw new NoSuchMethodException(name);
    }
}
