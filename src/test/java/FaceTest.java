import java.lang.reflect.Constructor;
import java.lang.reflect.Field;
import java.lang.reflect.Method;
import java.lang.reflect.Modifier;
import java.util.Arrays;
import java.util.TreeSet;

/** Promise 1, and the face: the class has what the document lists and no more. */
public final class FaceTest {
    private static final String[] FACE = {
        "int act(int, int, int, int, int) NoSuchElementException IllegalArgumentException",
        "int call(int, int) IllegalArgumentException NoSuchElementException ArithmeticException",
        "int count(int) IllegalArgumentException",
        "int empty() IllegalStateException",
        "int join(int) IllegalArgumentException IllegalStateException",
        "int keep(int, boolean) IllegalArgumentException",
        "double lastY()",
        "int latch(int, boolean) IllegalArgumentException",
        "int leave(int) NoSuchElementException",
        "double locate(int, int, double, double) IllegalArgumentException NoSuchElementException ArithmeticException",
        "int mount(int, int) IllegalArgumentException IllegalStateException",
        "int offer(int, int, int, int, int) NoSuchElementException IllegalArgumentException",
        "int play(int) IllegalArgumentException IllegalStateException UnsupportedOperationException",
        "int publish(int, int, int) NoSuchElementException IllegalArgumentException",
        "int queued(int, int, int, int) NoSuchElementException IllegalArgumentException",
        "int sample(int, int, double, double, int) NoSuchElementException IllegalArgumentException"
            + " IllegalStateException",
        "int subscribe(int, int, int) NoSuchElementException IllegalArgumentException",
        "int tick(int) IllegalArgumentException",
        "int unsubscribe(int, int) NoSuchElementException IllegalArgumentException",
        "int variable(int, int) NoSuchElementException IllegalArgumentException",
    };

    public static void main(String[] args) {
        Check check = new Check();
        listsTheFace(check);
        hidesTheRest(check);
        startsInTheStateOfTheTerms(check);
        keepsObjectsApart(check);
        check.end();
    }

    private static void listsTheFace(Check check) {
        TreeSet<String> methods = new TreeSet<>();
        for (Method method : RobotBus.class.getDeclaredMethods()) {
            if (Modifier.isPublic(method.getModifiers())) {
                methods.add(line(method));
            }
        }
        check.due("the public methods", new TreeSet<>(Arrays.asList(FACE)), () -> methods);
        check.due("the class is public and final", Modifier.PUBLIC | Modifier.FINAL,
            () -> RobotBus.class.getModifiers());
    }

    private static String line(Method method) {
        StringBuilder text = new StringBuilder();
        text.append(method.getReturnType()).append(' ').append(method.getName()).append('(');
        String separator = "";
        for (Class<?> parameter : method.getParameterTypes()) {
            text.append(separator).append(parameter);
            separator = ", ";
        }
        text.append(')');
        for (Class<?> thrown : method.getExceptionTypes()) {
            text.append(' ').append(thrown.getSimpleName());
        }
        return text.toString();
    }

    private static void hidesTheRest(Check check) {
        TreeSet<String> open = new TreeSet<>();
        TreeSet<String> shared = new TreeSet<>();
        for (Method method : RobotBus.class.getDeclaredMethods()) {
            boolean isPublic = Modifier.isPublic(method.getModifiers());
            if (!isPublic && !Modifier.isPrivate(method.getModifiers())) {
                open.add(method.getName());
            }
            if (!isPublic && String.join(" ", FACE).contains(" " + method.getName() + "(")) {
                shared.add(method.getName());
            }
        }
        for (Field field : RobotBus.class.getDeclaredFields()) {
            if (!Modifier.isPrivate(field.getModifiers())) {
                open.add(field.getName());
            }
        }
        check.due("members that are neither of the face nor private", new TreeSet<String>(), () -> open);
        check.due("private methods with a public one's name", new TreeSet<String>(), () -> shared);
        Constructor<?>[] constructors = RobotBus.class.getDeclaredConstructors();
        check.due("constructors", "[public RobotBus()]", () -> Arrays.toString(constructors));
    }

    private static void startsInTheStateOfTheTerms(Check check) {
        RobotBus bus = new RobotBus();
        for (int what = 0; what <= 6; what++) {
            int number = what;
            check.due("count(" + what + ") at first", 0, () -> bus.count(number));
        }
        check.dueNumber("lastY at first", 0, bus.lastY());
        for (int node = 0; node < 6; node++) {
            int number = node;
            check.dueThrow("node " + node + " at first", Check.MISSING, () -> bus.variable(number, 0));
        }
        for (int topic = 0; topic < 6; topic++) {
            int number = topic;
            check.due("latch off at first", 0, () -> bus.latch(number, false));
            check.due("keep off at first", 0, () -> bus.keep(number, false));
        }
        for (int service = 0; service < 4; service++) {
            int number = service;
            check.dueThrow("service " + service + " at first", Check.MISSING, () -> bus.call(number, 1));
        }
        for (int frame = 1; frame < 6; frame++) {
            int number = frame;
            check.dueThrow("frame " + frame + " at first", Check.MISSING, () -> bus.locate(number, 0, 0, 0));
            check.due("mount " + frame + " at first", -1, () -> bus.mount(number, 0));
        }
    }

    private static void keepsObjectsApart(Check check) {
        RobotBus one = Check.busWith(0);
        RobotBus other = new RobotBus();
        one.tick(3);
        one.latch(2, true);
        check.due("the clock of another object", 0, () -> other.count(0));
        check.due("join on another object", 1, () -> other.join(0));
        check.due("latch on another object", 1, () -> other.latch(2, true));
    }
}
