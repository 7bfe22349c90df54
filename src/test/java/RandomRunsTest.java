import java.lang.reflect.Method;
import java.util.Arrays;
import java.util.List;
import java.util.Random;

/**
 * All promises: runs of 512 calls, drawn by fixed seeds, answer as the model does. What a call that throws may have
 * changed shows in the answers behind it.
 */
public final class RandomRunsTest {
    private static final int RUNS = 3000;
    private static final int CALLS = 512;
    private static final double[] ODD_COORDINATES = {
        0.1, 1024.125, -1024.125, 1024, -1024, -0.0, Double.NaN, Double.NEGATIVE_INFINITY, Double.MIN_VALUE, 1e18,
    };
    private static final int[] ODD_NUMBERS = {
        -1, 6, 7, -2, 9, 101, -101, 1001, -1001, 100000, 100001, Integer.MIN_VALUE, Integer.MAX_VALUE,
    };

    private final Random random;
    private final List<Method> calls = Calls.all();
    private final RobotBus bus = new RobotBus();
    private final BusModel model = new BusModel();
    private final int oddOnesIn;
    private int sampleTime = 0;

    private RandomRunsTest(int seed) {
        this.random = new Random(seed);
        this.oddOnesIn = 10 + seed % 90;
    }

    public static void main(String[] args) throws ReflectiveOperationException {
        Check check = new Check();
        for (int seed = 0; seed < RUNS; seed++) {
            new RandomRunsTest(seed).run(check, "run " + seed);
        }
        check.end();
    }

    private void run(Check check, String name) throws ReflectiveOperationException {
        for (int i = 0; i < CALLS; i++) {
            Method method = nextCall(i);
            Object[] arguments = arguments(method);
            Method same = BusModel.class.getDeclaredMethod(method.getName(), method.getParameterTypes());
            String want = Calls.outcome(same, model, arguments);
            String got = Calls.outcome(method, bus, arguments);
            if (!want.equals(got)) {
                String call = method.getName() + Arrays.toString(arguments);
                check.tell(name + ", call " + i + ", " + call + " with " + model, want, got);
                return;
            }
        }
    }

    /** Runs differ in what they mostly do, and most begin with some nodes. */
    private Method nextCall(int i) {
        if (i < 4) {
            return Calls.named("join");
        }
        Method method = calls.get(random.nextInt(calls.size()));
        boolean endsMuch = method.getName().equals("leave") || method.getName().equals("empty")
            || method.getName().equals("mount") || method.getName().equals("unsubscribe");
        if (endsMuch && random.nextInt(6) != 0) {
            String[] frequent = {"publish", "tick", "act", "subscribe", "sample", "queued", "variable"};
            return Calls.named(frequent[random.nextInt(frequent.length)]);
        }
        return method;
    }

    private Object[] arguments(Method method) {
        Class<?>[] types = method.getParameterTypes();
        Object[] drawn = new Object[types.length];
        for (int i = 0; i < types.length; i++) {
            if (types[i] == boolean.class) {
                drawn[i] = random.nextBoolean();
            } else if (types[i] == double.class) {
                drawn[i] = coordinate();
            } else {
                drawn[i] = number(method.getName(), i);
            }
        }
        return drawn;
    }

    private double coordinate() {
        if (random.nextInt(oddOnesIn) == 0) {
            return ODD_COORDINATES[random.nextInt(ODD_COORDINATES.length)];
        }
        int reach = random.nextBoolean() ? 20 : 8192;
        return (random.nextInt(2 * reach + 1) - reach) / 8.0;
    }

    private int number(String method, int place) {
        if (random.nextInt(oddOnesIn) == 0) {
            return ODD_NUMBERS[random.nextInt(ODD_NUMBERS.length)];
        }
        switch (method + place) {
            case "publish2":
            case "call1":
                return random.nextInt(8) == 0 ? random.nextInt() : random.nextInt(41) - 20;
            case "sample1":
                sampleTime += random.nextInt(4);
                return sampleTime;
            case "locate1":
                return Math.max(0, sampleTime - random.nextInt(40));
            case "act2":
                return random.nextInt(6) - (random.nextInt(10) == 0 ? 1 : 0);
            case "act4":
                return random.nextBoolean() ? random.nextInt(4) : random.nextInt(201) - 100;
            case "offer3":
                return random.nextInt(4);
            case "offer4":
                return random.nextInt(2001) - 1000;
            case "subscribe2":
            case "play0":
                return 1 + random.nextInt(4);
            case "tick0":
                return 1 + random.nextInt(8);
            case "queued2":
            case "queued3":
                return random.nextInt(3);
            case "count0":
                return random.nextInt(7);
            default:
                return random.nextInt(random.nextBoolean() ? 4 : 6);
        }
    }
}
