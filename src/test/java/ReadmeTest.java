import java.io.IOException;
import java.lang.reflect.Method;
import java.nio.file.Files;
import java.nio.file.Path;
import java.util.regex.Matcher;
import java.util.regex.Pattern;

/** The calls of README.md's example, as they stand there, answer what it tells; and every call is named there. */
public final class ReadmeTest {
    private static final Pattern CALL = Pattern.compile("x\\.(\\w+)\\(([^)]*)\\);\\s+// (-?\\d+)\\s.*");

    public static void main(String[] args) throws IOException, ReflectiveOperationException {
        String readme = Files.readString(Path.of("README.md"));
        int calls = exampleHolds(readme);
        Due.holds("README.md has an example of " + calls + " calls", calls >= 18);
        for (Method m : IronCampaign.class.getDeclaredMethods()) {
            if (!java.lang.reflect.Modifier.isPublic(m.getModifiers())) continue;
            Due.holds("README.md names " + m.getName(), readme.contains("`" + m.getName() + "`"));
        }
        Due.holds("README.md tells how to run the tests", readme.contains(".ci/run"));
        Due.end();
    }

    private static int exampleHolds(String readme) throws ReflectiveOperationException {
        IronCampaign x = new IronCampaign();
        int calls = 0;
        for (String line : readme.split("\n")) {
            Matcher call = CALL.matcher(line);
            if (!call.matches()) continue;
            Due.is(line, answer(x, call.group(1), call.group(2)), Long.parseLong(call.group(3)));
            calls++;
        }
        return calls;
    }

    private static long answer(IronCampaign x, String name, String list) throws ReflectiveOperationException {
        String[] words = list.isEmpty() ? new String[0] : list.split(", ");
        Class<?>[] types = new Class<?>[words.length];
        Object[] numbers = new Object[words.length];
        for (int i = 0; i < words.length; i++) {
            types[i] = int.class;
            numbers[i] = Integer.valueOf(words[i]);
        }
        return ((Number) IronCampaign.class.getMethod(name, types).invoke(x, numbers)).longValue();
    }
}
