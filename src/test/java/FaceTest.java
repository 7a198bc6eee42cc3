import java.lang.reflect.Constructor;
import java.lang.reflect.Field;
import java.lang.reflect.Method;
import java.lang.reflect.Modifier;
import java.util.Set;
import java.util.TreeSet;

/** The face is the document's, and nothing else can be seen from outside. */
public final class FaceTest {
    private static final String[] FACE = {
        "int add(long) throws IllegalStateException",
        "int fill(int, long, long) throws IllegalArgumentException, IllegalStateException",
        "int cut(int) throws IllegalArgumentException",
        "long head(int) throws NoSuchElementException",
        "long part(int, int) throws NoSuchElementException",
        "int path(int, int) throws NoSuchElementException",
        "int steps(int, int) throws NoSuchElementException",
        "long proof(int) throws IndexOutOfBoundsException",
        "long alter(int, long) throws IndexOutOfBoundsException",
        "int length(int) throws IllegalArgumentException",
        "boolean shows(int, int, long, long)",
        "boolean grew(int, int, long, long)",
        "int find(int, long) throws NoSuchElementException",
        "int count(int)",
    };

    public static void main(String[] args) {
        Check check = new Check();
        methods(check);
        members(check);
        check.end();
    }

    private static void methods(Check check) {
        Set<String> open = new TreeSet<>();
        Set<String> openNames = new TreeSet<>();
        for (Method method : LogTree.class.getDeclaredMethods()) {
            if (Modifier.isPublic(method.getModifiers())) {
                open.add(told(method));
                openNames.add(method.getName());
                check.due(method + " is static", false, Modifier.isStatic(method.getModifiers()));
            }
        }
        check.dueText("the public methods", new TreeSet<>(Set.of(FACE)).toString(), open.toString());
        for (Method method : LogTree.class.getDeclaredMethods()) {
            int modifiers = method.getModifiers();
            if (!Modifier.isPublic(modifiers)) {
                check.due(method + " is private", true, Modifier.isPrivate(modifiers));
                check.due(method + " bears a public name", false, openNames.contains(method.getName()));
            }
        }
    }

    private static void members(Check check) {
        int modifiers = LogTree.class.getModifiers();
        check.due("the class is public", true, Modifier.isPublic(modifiers));
        check.due("the class is final", true, Modifier.isFinal(modifiers));
        Constructor<?>[] constructors = LogTree.class.getDeclaredConstructors();
        check.due("constructors", 1, constructors.length);
        check.due("the constructor is public", true, Modifier.isPublic(constructors[0].getModifiers()));
        check.due("the constructor's parameters", 0, constructors[0].getParameterCount());
        for (Field field : LogTree.class.getDeclaredFields()) {
            int kind = field.getModifiers();
            check.due(field + " is private", true, Modifier.isPrivate(kind));
            check.due(field + " is no changing static", true, !Modifier.isStatic(kind) || Modifier.isFinal(kind));
        }
    }

    private static String told(Method method) {
        StringBuilder text = new StringBuilder();
        text.append(method.getReturnType().getSimpleName()).append(' ').append(method.getName());
        text.append('(').append(names(method.getParameterTypes())).append(')');
        if (method.getExceptionTypes().length > 0) {
            text.append(" throws ").append(names(method.getExceptionTypes()));
        }
        return text.toString();
    }

    private static String names(Class<?>[] types) {
        StringBuilder text = new StringBuilder();
        for (Class<?> type : types) {
            text.append(text.length() == 0 ? "" : ", ").append(type.getSimpleName());
        }
        return text.toString();
    }
}
