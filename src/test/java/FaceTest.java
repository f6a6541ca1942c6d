import java.lang.reflect.Field;
import java.lang.reflect.Method;
import java.lang.reflect.Modifier;
import java.util.Arrays;
import java.util.Set;
import java.util.TreeSet;

/** The public face: its constants, constructor and methods, and no other member that is not private. */
final class FaceTest {
    private static final String INDEX = " throws IndexOutOfBoundsException";
    private static final String ARGUMENT = " throws IllegalArgumentException";
    private static final String ARGUMENT_STATE = " throws IllegalArgumentException, IllegalStateException";
    private static final String INDEX_ARGUMENT = " throws IndexOutOfBoundsException, IllegalArgumentException";
    private static final String INDEX_STATE = " throws IndexOutOfBoundsException, IllegalStateException";

    private static final String[] METHODS = {
        "int addDevice(int, int)" + ARGUMENT_STATE,
        "int setOnline(int, boolean)" + INDEX,
        "int setDozing(int, boolean)" + INDEX,
        "int setQuiet(int, int, int)" + INDEX_ARGUMENT,
        "boolean join(int, int, boolean)" + INDEX_ARGUMENT,
        "int kill(int)" + INDEX_STATE,
        "int devices()",
        "boolean isQuiet(int)" + INDEX,
        "int send(int, int, boolean, int)" + ARGUMENT_STATE,
        "int sendBy(int, int, int, boolean, int)" + ARGUMENT_STATE,
        "int read(int, int)" + INDEX_STATE,
        "int sent()",
        "boolean stands(int)" + INDEX,
        "int waitsFor(int)" + INDEX,
        "int deliveredTo(int)" + INDEX,
        "int standing(int, int)" + ARGUMENT,
        "int badge(int)" + INDEX,
        "int waiting(int)" + INDEX,
        "int quota(int)" + INDEX,
        "int pass(int)" + ARGUMENT_STATE,
        "int clock()",
        "int deliveries()",
    };

    public static void main(String[] args) {
        Checks checks = new Checks("FaceTest");
        int type = PushNotices.class.getModifiers();
        checks.same("the class is public and final", true, Modifier.isPublic(type) && Modifier.isFinal(type));
        checks.same("NONE", -1, PushNotices.NONE);
        checks.same("BOTH", 0, PushNotices.BOTH);
        checks.same("ANY", 1, PushNotices.ANY);
        checks.same("BUT", 2, PushNotices.BUT);
        checks.same("methods", new TreeSet<>(Arrays.asList(METHODS)), openMethods());
        checks.same("fields", new TreeSet<>(Arrays.asList("NONE", "BOTH", "ANY", "BUT")), openFields());
        checks.same("constructors", "[public PushNotices()]",
                Arrays.toString(PushNotices.class.getDeclaredConstructors()));
        checks.same("private methods with a public name", new TreeSet<String>(), hiddenNamesakes());
        checks.end();
    }

    private static Set<String> openMethods() {
        Set<String> found = new TreeSet<>();
        for (Method method : PushNotices.class.getDeclaredMethods()) {
            if (!Modifier.isPrivate(method.getModifiers())) {
                found.add(faceOf(method));
            }
        }
        return found;
    }

    private static String faceOf(Method method) {
        String thrown = names(method.getExceptionTypes());
        return (Modifier.isPublic(method.getModifiers()) ? "" : "not public: ")
                + (Modifier.isStatic(method.getModifiers()) ? "static " : "")
                + method.getReturnType().getSimpleName() + " " + method.getName()
                + "(" + names(method.getParameterTypes()) + ")"
                + (thrown.isEmpty() ? "" : " throws " + thrown);
    }

    private static String names(Class<?>[] types) {
        StringBuilder names = new StringBuilder();
        for (Class<?> type : types) {
            names.append(names.length() == 0 ? "" : ", ").append(type.getSimpleName());
        }
        return names.toString();
    }

    private static Set<String> openFields() {
        Set<String> found = new TreeSet<>();
        for (Field field : PushNotices.class.getDeclaredFields()) {
            if (!Modifier.isPrivate(field.getModifiers())) {
                found.add(field.getName());
            }
        }
        return found;
    }

    private static Set<String> hiddenNamesakes() {
        Set<String> open = new TreeSet<>();
        for (Method method : PushNotices.class.getMethods()) {
            open.add(method.getName());
        }
        Set<String> found = new TreeSet<>();
        for (Method method : PushNotices.class.getDeclaredMethods()) {
            if (Modifier.isPrivate(method.getModifiers()) && open.contains(method.getName())) {
                found.add(method.getName());
            }
        }
        return found;
    }
}
