import java.lang.reflect.InvocationTargetException;
import java.lang.reflect.Method;
import java.lang.reflect.Modifier;
import java.nio.file.Files;
import java.nio.file.Path;
import java.util.List;
import java.util.Set;
import java.util.TreeSet;
import java.util.regex.Matcher;
import java.util.regex.Pattern;

/** README.md tells the truth: each call of its example answers what stands behind it, and no method is left out. */
public final class ReadmeTest {
    private static final Check CHECK = new Check("ReadmeTest");
    private static final Pattern CALL = Pattern.compile("x\\.(\\w+)\\(([^)]*)\\); +// (-?\\d+|true|false)(:.*)?");

    private ReadmeTest() {
    }

    public static void main(String[] args) throws Exception {
        ThriftyStores x = new ThriftyStores();
        Set<String> called = new TreeSet<>();
        for (String line : example(Files.readAllLines(Path.of("README.md")))) {
            Matcher call = CALL.matcher(line);
            CHECK.due("form of the line " + line, call.matches(), true);
            if (call.matches()) {
                called.add(call.group(1));
                CHECK.due(line, answer(x, call.group(1), call.group(2)).equals(call.group(3)), true);
            }
        }
        for (Method method : ThriftyStores.class.getDeclaredMethods()) {
            if (Modifier.isPublic(method.getModifiers())) {
                CHECK.due("the example calls " + method.getName(), called.contains(method.getName()), true);
            }
        }
        CHECK.end();
    }

    private static List<String> example(List<String> lines) {
        int first = lines.indexOf("```java") + 1;
        List<String> block = lines.subList(first, lines.size());
        block = block.subList(0, block.indexOf("```"));
        CHECK.due("the example makes an object", block.get(0).equals("ThriftyStores x = new ThriftyStores();"), true);
        return block.stream().skip(1).filter(line -> !line.isBlank()).toList();
    }

    private static String answer(ThriftyStores x, String name, String written) throws IllegalAccessException {
        String[] parts = written.isEmpty() ? new String[0] : written.split(", ");
        for (Method method : ThriftyStores.class.getMethods()) {
            if (method.getName().equals(name) && method.getParameterCount() == parts.length) {
                try {
                    return String.valueOf(method.invoke(x, arguments(method, parts)));
                } catch (InvocationTargetException e) {
                    return "threw " + e.getCause();
                }
            }
        }
        return "no such method";
    }

    private static Object[] arguments(Method method, String[] parts) {
        Object[] arguments = new Object[parts.length];
        for (int k = 0; k < parts.length; k++) {
            boolean truth = method.getParameterTypes()[k] == boolean.class;
            arguments[k] = truth ? (Object) Boolean.valueOf(parts[k]) : (Object) Integer.valueOf(parts[k]);
        }
        return arguments;
    }
}
