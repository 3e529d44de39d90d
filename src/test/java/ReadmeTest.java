import java.io.IOException;
import java.lang.reflect.Method;
import java.lang.reflect.Modifier;
import java.nio.file.Files;
import java.nio.file.Path;
import java.util.Arrays;
import java.util.Set;
import java.util.TreeSet;
import java.util.regex.Matcher;
import java.util.regex.Pattern;

/** The calls that README.md shows answer what it says behind them, and they show every method of the face. */
public final class ReadmeTest {
    private static final Pattern BLOCK = Pattern.compile("(?s)```java\n(.*?)```");
    private static final Pattern ROW = Pattern.compile("field\\.(\\w+)\\(([^)]*)\\); +// (-?\\d+)(, .*)?");

    private static int wrong = 0;

    private static void fail(String what) {
        wrong++;
        System.out.println(what);
    }

    private static Object argument(Class<?> type, String text) {
        if (type == boolean.class) return Boolean.valueOf(text);
        long number = Long.decode(text.replace("L", ""));
        if (type == int.class) return (int) number;
        return number;
    }

    private static long answer(WreckField field, Method method, String[] texts) throws ReflectiveOperationException {
        Class<?>[] types = method.getParameterTypes();
        Object[] arguments = new Object[types.length];
        for (int i = 0; i < types.length; i++) arguments[i] = argument(types[i], texts[i]);
        return ((Number) method.invoke(field, arguments)).longValue();
    }

    private static Method methodOf(String name) {
        return Arrays.stream(WreckField.class.getMethods()).filter(m -> m.getName().equals(name)).findFirst().orElse(null);
    }

    private static void runBlock(String block, Set<String> unseen) throws ReflectiveOperationException {
        WreckField field = new WreckField();
        for (String row : block.split("\n")) {
            Matcher call = ROW.matcher(row);
            Method method = call.matches() ? methodOf(call.group(1)) : null;
            String[] texts = method == null || call.group(2).isEmpty() ? new String[0] : call.group(2).split(", ");
            if (method == null || texts.length != method.getParameterCount()) {
                fail("no call with its answer: " + row);
            } else {
                unseen.remove(method.getName());
                long got = answer(field, method, texts);
                if (got != Long.parseLong(call.group(3))) fail("answered " + got + ": " + row);
            }
        }
    }

    public static void main(String[] args) throws IOException, ReflectiveOperationException {
        Set<String> unseen = new TreeSet<>();
        for (Method method : WreckField.class.getDeclaredMethods()) {
            if (Modifier.isPublic(method.getModifiers())) unseen.add(method.getName());
        }
        Matcher block = BLOCK.matcher(Files.readString(Path.of("README.md")));
        while (block.find()) runBlock(block.group(1), unseen);
        if (!unseen.isEmpty()) fail("README.md does not show " + unseen);
        System.out.println(wrong == 0 ? "README.md is as told" : wrong + " things of README.md are not as told");
        if (wrong != 0) System.exit(1);
    }
}
