import java.lang.reflect.Method;
import java.lang.reflect.Modifier;
import java.nio.file.Files;
import java.nio.file.Path;
import java.util.HashSet;
import java.util.Set;
import java.util.regex.Matcher;
import java.util.regex.Pattern;

/** README.md's example: every call in it answers what stands behind it, and no call of the face is left out. */
public final class ReadmeTest {
    private static final Pattern CALL = Pattern.compile("shop\\.(\\w+)\\(([^)]*)\\);\\s*// ([^:]+): .*");
    private static final CycleShop SHOP = new CycleShop();

    public static void main(String[] args) throws Exception {
        Set<String> shown = new HashSet<>();
        for (String line : Files.readAllLines(Path.of("README.md"))) {
            if (line.startsWith("shop.")) {
                shown.add(checked(line));
            }
        }
        for (Method method : CycleShop.class.getDeclaredMethods()) {
            if (Modifier.isPublic(method.getModifiers())) {
                Due.is("whether README.md shows " + method.getName() + "()", shown.contains(method.getName()) ? 1 : 0, 1);
            }
        }
        Due.end();
    }

    private static String checked(String line) throws Exception {
        Matcher call = CALL.matcher(line);
        boolean isCall = call.matches();
        Due.is("whether this is a call with its answer: " + line, isCall ? 1 : 0, 1);
        if (!isCall) {
            return "";
        }
        Due.is(line, answer(call.group(1), call.group(2)), valueOf(call.group(3)));
        return call.group(1);
    }

    private static long answer(String name, String arguments) throws Exception {
        String[] words = arguments.isEmpty() ? new String[0] : arguments.split(", ");
        Class<?>[] types = new Class<?>[words.length];
        Object[] values = new Object[words.length];
        for (int i = 0; i < words.length; i++) {
            types[i] = int.class;
            values[i] = (int) valueOf(words[i].replace("CycleShop.", ""));
        }
        Method method = CycleShop.class.getMethod(name, types);
        return ((Number) method.invoke(SHOP, values)).longValue();
    }

    private static long valueOf(String words) {
        long value = 0;
        for (String word : words.split(" \\+ ")) {
            value += switch (word) {
                case "NONE" -> CycleShop.NONE;
                case "BAD" -> CycleShop.BAD;
                case "FULL" -> CycleShop.FULL;
                case "Integer.MIN_VALUE" -> Integer.MIN_VALUE;
                case "Long.MIN_VALUE" -> Long.MIN_VALUE;
                default -> Long.parseLong(word);
            };
        }
        return value;
    }
}
