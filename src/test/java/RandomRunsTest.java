import java.lang.reflect.InvocationTargetException;
import java.lang.reflect.Method;
import java.lang.reflect.Modifier;
import java.util.ArrayList;
import java.util.Arrays;
import java.util.Comparator;
import java.util.List;
import java.util.Random;

/**
 * All promises: runs of 512 calls, drawn by fixed seeds, answer as the model does. What a call that throws may have
 * changed shows in the answers behind it.
 */
public final class RandomRunsTest {
    private static final int RUNS = 3000;
    private static final int CALLS = 512;
    private static final double[] ODD_COORDINATES = {
        0.1, 1024.125, -1024.125, 1024, -1024, -0.0, Double.NaN, Double.NEGATIVE_INFINITY, Double.MIN_VALUE, 1e18,
    };
    private static final int[] ODD_NUMBERS = {
        -1, 6, 7, -2, 9, 101, -101, 1001, -1001, 100000, 100001, Integer.MIN_VALUE, Integer.MAX_VALUE,
    };

    private final Random random;
    private final List<Method> calls;
    private final RobotBus bus = new RobotBus();
    private final BusModel model = new BusModel();
    private final int oddOnesIn;
    private int sampleTime = 0;

    private RandomRunsTest(int seed, List<Method> calls) {
        this.random = new Random(seed);
        this.calls = calls;
        this.oddOnesIn = 10 + seed % 90;
    }

    public static void main(String[] args) throws ReflectiveOperationException {
        Check check = new Check();
        List<Method> calls = callsOfTheFace();
        for (int seed = 0; seed < RUNS; seed++) {
            new RandomRunsTest(seed, calls).run(check, "run " + seed);
        }
        check.end();
    }

    private static List<Method> callsOfTheFace() {
        List<Method> found = new ArrayList<>();
        for (Method method : RobotBus.class.getDeclaredMethods()) {
            if (Modifier.isPublic(method.getModifiers())) {
                found.add(method);
            }
        }
        // The order in which they are found is not promised, and the seeds are to mean the same always.
        found.sort(Comparator.comparing(Method::getName));
        return found;
    }

    private void run(Check check, String name) throws ReflectiveOperationException {
        for (int i = 0; i < CALLS; i++) {
            Method method = nextCall(i);
            Object[] arguments = arguments(method);
            Method same = BusModel.class.getDeclaredMethod(method.getName(), method.getParameterTypes());
            String want = outcome(same, model, arguments);
            String got = outcome(method, bus, arguments);
            if (!want.equals(got)) {
                String call = method.getName() + Arrays.toString(arguments);
                check.tell(name + ", call " + i + ", " + call + " with " + model, want, got);
                return;
            }
        }
    }

    /** Runs differ in what they mostly do, and most begin with some nodes. */
    private Method nextCall(int i) {
        if (i < 4) {
            return named("join");
        }
        Method method = calls.get(random.nextInt(calls.size()));
        boolean endsMuch = method.getName().equals("leave") || method.getName().equals("empty")
            || method.getName().equals("mount") || method.getName().equals("unsubscribe");
        if (endsMuch && random.nextInt(6) != 0) {
            String[] frequent = {"publish", "tick", "act", "subscribe", "sample", "queued", "variable"};
            return named(frequent[random.nextInt(frequent.length)]);
        }
        return method;
    }

    private Method named(String name) {
        return calls.stream().filter(method -> method.getName().equals(name)).findFirst().orElseThrow();
    }

    private Object[] arguments(Method method) {
        Class<?>[] types = method.getParameterTypes();
        Object[] drawn = new Object[types.length];
        for (int i = 0; i < types.length; i++) {
            if (types[i] == boolean.class) {
                drawn[i] = random.nextBoolean();
            } else if (types[i] == double.class) {
                drawn[i] = coordinate();
            } else {
                drawn[i] = number(method.getName(), i);
            }
        }
        return drawn;
    }

    private double coordinate() {
        if (random.nextInt(oddOnesIn) == 0) {
            return ODD_COORDINATES[random.nextInt(ODD_COORDINATES.length)];
        }
        int reach = random.nextBoolean() ? 20 : 8192;
        return (random.nextInt(2 * reach + 1) - reach) / 8.0;
    }

    private int number(String method, int place) {
        if (random.nextInt(oddOnesIn) == 0) {
            return ODD_NUMBERS[random.nextInt(ODD_NUMBERS.length)];
        }
        switch (method + place) {
            case "publish2":
            case "call1":
                return random.nextInt(8) == 0 ? random.nextInt() : random.nextInt(41) - 20;
            case "sample1":
                sampleTime += random.nextInt(4);
                return sampleTime;
            case "locate1":
                return Math.max(0, sampleTime - random.nextInt(40));
            case "act2":
                return random.nextInt(6) - (random.nextInt(10) == 0 ? 1 : 0);
            case "act4":
                return random.nextBoolean() ? random.nextInt(4) : random.nextInt(201) - 100;
            case "offer3":
                return random.nextInt(4);
            case "offer4":
                return random.nextInt(2001) - 1000;
            case "subscribe2":
            case "play0":
                return 1 + random.nextInt(4);
            case "tick0":
                return 1 + random.nextInt(8);
            case "queued2":
            case "queued3":
                return random.nextInt(3);
            case "count0":
                return random.nextInt(7);
            default:
                return random.nextInt(random.nextBoolean() ? 4 : 6);
        }
    }

    private static String outcome(Method method, Object target, Object[] arguments) throws IllegalAccessException {
        try {
            Object answer = method.invoke(target, arguments);
            // A zero is one with either sign: adding 0 makes it the same text.
            return answer instanceof Double number ? String.valueOf(number + 0.0) : String.valueOf(answer);
        } catch (InvocationTargetException e) {
            return Check.thrown(e.getCause().getClass());
        }
    }
}
