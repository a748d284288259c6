import java.lang.reflect.Constructor;
import java.lang.reflect.Field;
import java.lang.reflect.Method;
import java.lang.reflect.Modifier;
import java.util.Arrays;
import java.util.Set;
import java.util.TreeSet;

/** The class has the document's public face, and no other member that can be seen from outside. */
public final class FaceTest {
    private static final String ARGUMENT = "IllegalArgumentException";
    private static final String NONE = "NoSuchElementException";
    private static final String FULL = "UnsupportedOperationException";
    private static final String OUT = "IndexOutOfBoundsException";

    public static void main(String[] args) {
        Check check = new Check("the public face");
        Set<String> wanted = new TreeSet<>(Arrays.asList(
                "int printer(int, int) " + ARGUMENT + " " + FULL,
                "int ticket(int, int, int) " + ARGUMENT + " " + FULL,
                "int job(int, int, int, int, long) " + NONE + " " + ARGUMENT + " " + FULL,
                "int take(int, long) " + NONE + " " + ARGUMENT + " IllegalStateException",
                "int print(int, int) " + NONE + " " + ARGUMENT,
                "int fault(int) " + NONE,
                "int hold(int, boolean) " + NONE,
                "int cancel(int) " + NONE,
                "int state(int, int) " + NONE + " " + OUT,
                "int doubled(int, int) " + NONE + " " + OUT,
                "long account(int, int) " + NONE + " " + OUT,
                "int reason(int) " + NONE,
                "int split(int, int, int) " + NONE,
                "int like(int) " + ARGUMENT));
        check.holds("the methods are " + methods() + ", due are " + wanted, methods().equals(wanted));
        check.holds("a final class", Modifier.isFinal(PrintQueue.class.getModifiers()));
        check.holds("a public class", Modifier.isPublic(PrintQueue.class.getModifiers()));
        Constructor<?>[] made = PrintQueue.class.getDeclaredConstructors();
        check.holds("one public constructor without arguments", made.length == 1
                && Modifier.isPublic(made[0].getModifiers()) && made[0].getParameterCount() == 0);
        for (Field field : PrintQueue.class.getDeclaredFields()) {
            check.holds(field + " can be seen", Modifier.isPrivate(field.getModifiers()));
        }
        for (Class<?> inside : PrintQueue.class.getDeclaredClasses()) {
            check.holds(inside + " is not static", Modifier.isStatic(inside.getModifiers()));
            check.holds(inside + " is public or protected",
                    (inside.getModifiers() & (Modifier.PUBLIC | Modifier.PROTECTED)) == 0);
        }
        check.end();
    }

    private static Set<String> methods() {
        Set<String> found = new TreeSet<>();
        for (Method method : PrintQueue.class.getDeclaredMethods()) {
            if (!Modifier.isPrivate(method.getModifiers())) {
                found.add(written(method));
            }
        }
        return found;
    }

    private static String written(Method method) {
        StringBuilder text = new StringBuilder();
        text.append(method.getReturnType().getName()).append(' ').append(method.getName()).append('(');
        String between = "";
        for (Class<?> type : method.getParameterTypes()) {
            text.append(between).append(type.getName());
            between = ", ";
        }
        text.append(')');
        for (Class<?> type : method.getExceptionTypes()) {
            text.append(' ').append(type.getSimpleName());
        }
        return text.toString();
    }
}
