import java.io.IOException;
import java.lang.reflect.Method;
import java.nio.file.Files;
import java.nio.file.Path;
import java.util.Set;
import java.util.TreeSet;
import java.util.regex.Matcher;
import java.util.regex.Pattern;

/** README.md: its example answers what its comments say, and it tells of every call of the face. */
public final class ReadmeTest {
    private static final Pattern CALL = Pattern.compile("bench\\.(\\w+)\\(([^)]*)\\);\\s+// (void$|-?\\d+:).*");

    public static void main(String[] args) throws IOException, ReflectiveOperationException {
        Checks checks = new Checks();
        String readme = Files.readString(Path.of("README.md"));
        theExampleAnswersAsItSays(checks, readme);
        everyCallIsTold(checks, readme);
        checks.end();
    }

    private static void theExampleAnswersAsItSays(Checks checks, String readme) throws ReflectiveOperationException {
        CellTransport bench = new CellTransport();
        for (String line : readme.split("\n")) {
            if (!line.startsWith("bench.")) {
                continue;
            }
            Matcher call = CALL.matcher(line);
            boolean isReadable = call.matches();
            checks.due("can read: " + line, isReadable ? 1 : 0, 1);
            if (isReadable) {
                compare(checks, bench, call);
            }
        }
    }

    private static void compare(Checks checks, CellTransport bench, Matcher call) throws ReflectiveOperationException {
        String told = call.group(3).replace(":", "");
        Object answer = play(bench, call.group(1), call.group(2));
        if (answer == null) {
            checks.due(call.group() + " is void", told.equals("void") ? 1 : 0, 1);
        } else {
            checks.due(call.group(), (Integer) answer, told.equals("void") ? Long.MIN_VALUE : Long.parseLong(told));
        }
    }

    private static Object play(CellTransport bench, String name, String numbers) throws ReflectiveOperationException {
        String[] texts = numbers.isEmpty() ? new String[0] : numbers.split(", ");
        Class<?>[] types = new Class<?>[texts.length];
        Object[] values = new Object[texts.length];
        for (int i = 0; i < texts.length; i++) {
            types[i] = int.class;
            values[i] = Integer.valueOf(texts[i]);
        }
        return CellTransport.class.getMethod(name, types).invoke(bench, values);
    }

    private static void everyCallIsTold(Checks checks, String readme) {
        Set<String> names = new TreeSet<>();
        for (Method method : CellTransport.class.getMethods()) {
            if (method.getDeclaringClass() == CellTransport.class) {
                names.add(method.getName());
            }
        }
        checks.due("calls of the face", names.size(), 15);
        for (String name : names) {
            checks.due("README.md tells of " + name, readme.contains("`" + name + "(") ? 1 : 0, 1);
        }
    }
}
