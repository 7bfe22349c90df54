import java.lang.reflect.InvocationTargetException;
import java.lang.reflect.Method;
import java.lang.reflect.Modifier;
import java.util.ArrayList;
import java.util.Comparator;
import java.util.List;

/** The calls of the face, found by name, and what they answer as texts. */
final class Calls {
    private static final List<Method> ALL = find();

    private Calls() {
    }

    static List<Method> all() {
        return ALL;
    }

    private static List<Method> find() {
        List<Method> found = new ArrayList<>();
        for (Method method : RobotBus.class.getDeclaredMethods()) {
            if (Modifier.isPublic(method.getModifiers())) {
                found.add(method);
            }
        }
        // The order in which they are found is not promised, and the seeds are to mean the same always.
        found.sort(Comparator.comparing(Method::getName));
        return found;
    }

    static Method named(String name) {
        return ALL.stream().filter(method -> method.getName().equals(name)).findFirst()
            .orElseThrow(() -> new IllegalArgumentException("no call " + name));
    }

    static String outcome(Method method, Object target, Object[] arguments) {
        try {
            Object answer = method.invoke(target, arguments);
            return answer instanceof Double number ? text(number) : String.valueOf(answer);
        } catch (InvocationTargetException e) {
            return Check.thrown(e.getCause().getClass());
        } catch (IllegalAccessException e) {
            throw new IllegalArgumentException(e);
        }
    }

    /** A zero is one with either sign: adding 0 makes it the same text. */
    static String text(double number) {
        return String.valueOf(number + 0.0);
    }
}
