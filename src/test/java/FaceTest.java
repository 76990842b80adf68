import java.lang.reflect.Constructor;
import java.lang.reflect.Field;
import java.lang.reflect.Method;
import java.lang.reflect.Modifier;
import java.util.Arrays;
import java.util.TreeSet;

/** The document's face is there, and LANGUAGE.md's rule 1: nothing else of the class can be seen. */
public final class FaceTest {
    private static final String THROWS = " throws [IllegalStateException, ArithmeticException]";
    private static final TreeSet<String> FACE = new TreeSet<>(Arrays.asList(
        "add 4 throws []", "read 2" + THROWS, "weigh 2" + THROWS, "over 1 throws []", "clear 1 throws []",
        "cost 1 throws []", "tell 2 throws []", "sweep 2 throws []", "alarm 2 throws []", "costs 0 throws []",
        "trace 1 throws []", "count 1 throws []"));

    public static void main(String[] args) throws ReflectiveOperationException {
        Run.same("the class", Modifier.toString(AlarmKinds.class.getModifiers()), "public final");
        constants();
        constructors();
        methods();
        classesInside();
        Run.end();
    }

    private static void constants() throws IllegalAccessException {
        TreeSet<String> seen = new TreeSet<>();
        for (Field field : AlarmKinds.class.getDeclaredFields()) {
            if (!Modifier.isPrivate(field.getModifiers())) {
                seen.add(Modifier.toString(field.getModifiers()) + " " + field.getName() + " " + field.get(null));
            }
        }
        Run.same("the constants", seen.toString(), "[public static final OUTSIDE -102, "
            + "public static final ROOM -104, public static final UNKNOWN -101]");
    }

    private static void constructors() {
        Constructor<?>[] all = AlarmKinds.class.getDeclaredConstructors();
        Run.same("the constructors", Arrays.toString(all), "[public AlarmKinds()]");
    }

    private static void methods() {
        TreeSet<String> seen = new TreeSet<>();
        TreeSet<String> names = new TreeSet<>();
        for (Method method : AlarmKinds.class.getDeclaredMethods()) {
            if (!Modifier.isPrivate(method.getModifiers())) {
                Run.same("modifiers of " + method, Modifier.toString(method.getModifiers()), "public");
                Run.same("type of " + method, method.getReturnType().getName(), "int");
                seen.add(signature(method));
                names.add(method.getName());
            }
        }
        Run.same("the methods", seen.toString(), FACE.toString());
        for (Method method : AlarmKinds.class.getDeclaredMethods()) {
            boolean hidden = Modifier.isPrivate(method.getModifiers());
            Run.same("a private " + method.getName(), String.valueOf(hidden && names.contains(method.getName())), "false");
        }
    }

    private static String signature(Method method) {
        TreeSet<String> types = new TreeSet<>();
        for (Class<?> type : method.getParameterTypes()) {
            types.add(type.getName());
        }
        Run.same("types of " + method, types.toString(), method.getParameterCount() == 0 ? "[]" : "[int]");
        StringBuilder thrown = new StringBuilder();
        for (Class<?> type : method.getExceptionTypes()) {
            thrown.append(thrown.length() == 0 ? "" : ", ").append(type.getSimpleName());
        }
        return method.getName() + " " + method.getParameterCount() + " throws [" + thrown + "]";
    }

    private static void classesInside() {
        for (Class<?> inside : AlarmKinds.class.getDeclaredClasses()) {
            int modifiers = inside.getModifiers();
            boolean fine = Modifier.isStatic(modifiers) && !Modifier.isPublic(modifiers) && !Modifier.isProtected(modifiers);
            Run.same(inside + " is static and not to be seen", String.valueOf(fine), "true");
        }
    }
}
