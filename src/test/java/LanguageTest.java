import java.lang.reflect.Field;
import java.lang.reflect.Method;
import java.lang.reflect.Modifier;
import java.nio.file.Files;
import java.nio.file.Path;
import java.util.ArrayList;
import java.util.List;
import java.util.Set;
import java.util.regex.Matcher;
import java.util.regex.Pattern;

/** Those rules of LANGUAGE.md that can be counted in the class, or looked up in its text. */
public final class LanguageTest {
    private static final Check CHECK = new Check("LanguageTest");
    private static final Path SOURCE = Path.of("src/main/java/ThriftyStores.java");
    private static final Set<Class<?>> CONSTANTS = Set.of(int.class, long.class, boolean.class, char.class,
            String.class, int[].class, long[].class, char[].class, byte[].class);
    private static final List<String> LIBRARY = List.of("Arrays.fill", "System.arraycopy", "Math.min",
            "Integer.numberOfTrailingZeros");

    private LanguageTest() {
    }

    public static void main(String[] args) throws Exception {
        String code = withoutWords(Files.readString(SOURCE));
        fewClassesAndFields();
        staticFieldsAreConstants();
        fewParameters();
        theLibrary(code);
        whatIsRuledOut(code);
        exceptions(code);
        shortMethods(code);
        CHECK.end();
    }

    private static List<Class<?>> classes() {
        List<Class<?>> all = new ArrayList<>(List.of(ThriftyStores.class.getDeclaredClasses()));
        all.add(ThriftyStores.class);
        return all;
    }

    /** The text of the source without its comments, and with empty texts in it. */
    private static String withoutWords(String source) {
        return source.replaceAll("(?s)/\\*.*?\\*/", "").replaceAll("//[^\n]*", "").replaceAll("\"[^\"\n]*\"", "\"\"");
    }

    private static void fewClassesAndFields() {
        CHECK.under("rule 11: at most some twelve classes, and a class some twenty fields beside its constants");
        CHECK.due("at most twelve classes", classes().size() <= 12, true);
        for (Class<?> one : classes()) {
            int fields = 0;
            for (Field field : one.getDeclaredFields()) {
                fields += Modifier.isStatic(field.getModifiers()) ? 0 : 1;
            }
            CHECK.due("at most twenty fields in " + one, fields <= 20, true);
        }
    }

    private static void staticFieldsAreConstants() {
        CHECK.under("rule 5: static fields are final");
        for (Class<?> one : classes()) {
            for (Field field : one.getDeclaredFields()) {
                if (Modifier.isStatic(field.getModifiers())) {
                    CHECK.due(field + " is final", Modifier.isFinal(field.getModifiers()), true);
                    CHECK.due(field + " is a constant", CONSTANTS.contains(field.getType()), true);
                }
            }
        }
    }

    private static void fewParameters() {
        CHECK.under("rule 11: a method takes at most seven parameters");
        for (Class<?> one : classes()) {
            for (Method method : one.getDeclaredMethods()) {
                CHECK.due("at most seven of " + method, method.getParameterCount() <= 7, true);
            }
        }
    }

    private static void theLibrary(String code) {
        CHECK.under("rule 4: the library: only what stands here");
        for (String found : all(code, "(?m)^import .*$")) {
            CHECK.due(found, found.equals("import java.util.Arrays;"), true);
        }
        for (String found : all(code, "\\b(Arrays|System|Math|Integer|Long|List|String)\\.\\w+")) {
            CHECK.due(found, LIBRARY.contains(found), true);
        }
    }

    private static void whatIsRuledOut(String code) {
        CHECK.under("rules 2, 5, 6, 8, 9: what the class is written without");
        String[] none = {"->", "::", "\\btry\\b", "\\bcatch\\b", "\\bfinally\\b", "\\bsynchronized\\b", "\\bassert\\b",
            "\\bstatic\\s*\\{", "\\bgetMessage\\b", "\\bfloat\\b", "\\bdouble\\b", "while \\(true\\)", "for \\(;;",
            "\\bpackage\\b", "\\bprotected\\b", "Exact\\b"};
        for (String form : none) {
            CHECK.due(form, all(code, form).size(), 0);
        }
    }

    private static void exceptions(String code) {
        CHECK.under("rule 6: throw new E() or throw new E(\"a written text\")");
        String form = "throw new (IllegalState|IllegalArgument|IndexOutOfBounds)Exception\\(\"\"\\);";
        for (String found : all(code, "\\bthrow\\b[^;]*;")) {
            CHECK.due(found, found.matches(form), true);
        }
    }

    private static void shortMethods(String code) {
        CHECK.under("rule 11: methods stay short (some sixty lines)");
        List<String> lines = List.of(code.split("\n"));
        for (int depth = 4; depth <= 8; depth += 4) {
            String indent = " ".repeat(depth);
            int begun = -1;
            for (int k = 0; k < lines.size(); k++) {
                String line = lines.get(k);
                if (line.matches(indent + "\\S.*\\(.*")) {
                    begun = k;
                } else if (line.equals(indent + "}") && begun >= 0) {
                    CHECK.due("lines of " + lines.get(begun).strip(), k - begun < 60, true);
                    begun = -1;
                }
            }
        }
    }

    private static List<String> all(String code, String form) {
        List<String> found = new ArrayList<>();
        Matcher matcher = Pattern.compile(form).matcher(code);
        while (matcher.find()) {
            found.add(matcher.group());
        }
        return found;
    }
}
