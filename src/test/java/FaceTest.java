import java.lang.reflect.Constructor;
import java.lang.reflect.Field;
import java.lang.reflect.Method;
import java.lang.reflect.Modifier;
import java.util.List;
import java.util.Set;
import java.util.TreeSet;

/** The public face: the document's members, all others private, and no private method of a public one's name. */
public final class FaceTest {
    private static final Check CHECK = new Check("FaceTest");

    private FaceTest() {
    }

    public static void main(String[] args) {
        Class<?> face = ThriftyStores.class;
        int modifiers = face.getModifiers();
        CHECK.due("public and final", Modifier.isPublic(modifiers) && Modifier.isFinal(modifiers), true);
        constructors(face);
        fields(face);
        methods(face);
        namesInside(face);
        CHECK.end();
    }

    private static void constructors(Class<?> face) {
        Constructor<?>[] all = face.getDeclaredConstructors();
        CHECK.due("constructors", all.length, 1);
        CHECK.due("public constructor", Modifier.isPublic(all[0].getModifiers()), true);
        CHECK.due("parameters", all[0].getParameterCount(), 0);
    }

    private static void fields(Class<?> face) {
        CHECK.due("NONE", ThriftyStores.NONE, -1);
        for (Field field : face.getDeclaredFields()) {
            boolean constant = field.getName().equals("NONE");
            CHECK.due(field.getName() + " is public", Modifier.isPublic(field.getModifiers()), constant);
            CHECK.due(field.getName() + " is private", Modifier.isPrivate(field.getModifiers()), !constant);
            if (Modifier.isStatic(field.getModifiers())) {
                CHECK.due(field.getName() + " is final", Modifier.isFinal(field.getModifiers()), true);
            }
        }
    }

    private static void methods(Class<?> face) {
        Set<String> want = new TreeSet<>(List.of(
                "int add(int,int,int,int)", "int clear()", "int thrift()", "int size()",
                "int instruction(int,int,boolean)", "int fate(int)", "int rounds()", "boolean may(int,int)",
                "boolean inside(int,int)", "boolean fact(int,int,int,int)", "boolean free(int,int)",
                "int run(boolean,int)", "int steps()", "int printed()", "int print(int)", "int kept()",
                "int cell(int,int,int)"));
        Set<String> got = new TreeSet<>();
        for (Method method : face.getDeclaredMethods()) {
            if (!Modifier.isPrivate(method.getModifiers())) {
                CHECK.due(method + " is public", Modifier.isPublic(method.getModifiers()), true);
                got.add(described(method));
            }
        }
        CHECK.due("the public methods " + got, got.equals(want), true);
    }

    private static String described(Method method) {
        StringBuilder text = new StringBuilder();
        for (Class<?> parameter : method.getParameterTypes()) {
            text.append(text.length() == 0 ? "" : ",").append(parameter.getName());
        }
        return method.getReturnType().getName() + " " + method.getName() + "(" + text + ")";
    }

    private static void namesInside(Class<?> face) {
        Set<String> names = new TreeSet<>();
        for (Method method : face.getMethods()) {
            if (method.getDeclaringClass() == face) {
                names.add(method.getName());
            }
        }
        for (Class<?> inside : face.getDeclaredClasses()) {
            CHECK.due(inside + " is static", Modifier.isStatic(inside.getModifiers()), true);
            for (Method method : inside.getDeclaredMethods()) {
                CHECK.due(method.getName() + " is new", names.contains(method.getName()), false);
            }
        }
        for (Method method : face.getDeclaredMethods()) {
            if (Modifier.isPrivate(method.getModifiers())) {
                CHECK.due(method.getName() + " is new", names.contains(method.getName()), false);
            }
        }
    }
}
