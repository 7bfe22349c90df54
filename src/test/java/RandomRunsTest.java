import java.lang.reflect.Method;
import java.util.Arrays;
import java.util.List;
import java.util.Map;
import java.util.Random;
import java.util.TreeMap;

/**
 * All promises: runs of 512 calls, drawn by fixed seeds, answer as the model does. What a call that throws may have
 * changed shows in the answers behind it.
 */
public final class RandomRunsTest {
    private static final int RUNS = 3000;
    private static final int CALLS = 512;
    private static final int LEAST_ANSWERS = 2000;

    // Drawn evenly, most calls would find no queue filled and no frame that leads to the root; a run keeps to a theme.
    private static final String[][] THEMES = {
        {"publish", "tick", "act", "subscribe", "sample", "queued", "variable"},
        {"subscribe", "publish", "publish", "publish", "queued", "queued", "tick", "unsubscribe", "latch", "leave"},
        {"act", "act", "subscribe", "publish", "publish", "tick", "variable", "offer", "call", "queued", "count"},
        {"keep", "publish", "publish", "tick", "tick", "play", "count", "subscribe", "queued", "empty"},
        {"sample", "sample", "sample", "sample", "sample", "locate", "locate", "locate", "lastY", "mount"},
    };
    private static final int FRAMES_THEME = 4;
    private static final double[] ODD_COORDINATES = {
        0.1, 1024.125, -1024.125, 1024, -1024, -0.0, Double.NaN, Double.NEGATIVE_INFINITY, Double.MIN_VALUE, 1e18,
    };
    private static final int[] ODD_NUMBERS = {
        -1, 6, 7, -2, 9, 101, -101, 1001, -1001, 100000, 100001, Integer.MIN_VALUE, Integer.MAX_VALUE,
    };

    private final Random random;
    private final List<Method> calls = Calls.all();
    private final RobotBus bus = new RobotBus();
    private final BusModel model = new BusModel();
    private final int theme;
    private final int oddOnesIn;
    private final int mostTicks;
    private final int width;
    private final int stride;
    private int sampleTime = 0;

    private RandomRunsTest(int seed) {
        this.random = new Random(seed);
        this.theme = seed % THEMES.length;
        this.oddOnesIn = 10 + seed % 90;
        this.mostTicks = random.nextBoolean() ? 8 : 1;
        this.width = theme == FRAMES_THEME ? 6 : 2 + random.nextInt(5);
        this.stride = random.nextBoolean() ? 4 : 600;
    }

    public static void main(String[] args) throws ReflectiveOperationException {
        Check check = new Check();
        Map<String, Integer> answers = new TreeMap<>();
        for (int seed = 0; seed < RUNS; seed++) {
            new RandomRunsTest(seed).run(check, "run " + seed, answers);
        }
        for (Method method : Calls.all()) {
            int many = answers.getOrDefault(method.getName(), 0);
            check.tell(method.getName() + " answers often enough", "true", String.valueOf(many >= LEAST_ANSWERS));
        }
        check.end();
    }

    private void run(Check check, String name, Map<String, Integer> answers) throws ReflectiveOperationException {
        for (int i = 0; i < CALLS; i++) {
            Method method = nextCall(i);
            Object[] arguments = arguments(method);
            Method same = BusModel.class.getDeclaredMethod(method.getName(), method.getParameterTypes());
            String want = Calls.outcome(same, model, arguments);
            String got = Calls.outcome(method, bus, arguments);
            if (!want.equals(got)) {
                String call = method.getName() + Arrays.toString(arguments);
                check.tell(name + ", call " + i + ", " + call + " with " + model, want, got);
                return;
            }
            // The root asked for a point of its own tells nothing of frames.
            if (!got.startsWith("throws") && !(method.getName().equals("locate") && arguments[0].equals(0))) {
                answers.merge(method.getName(), 1, Integer::sum);
            }
        }
    }

    private Method nextCall(int i) {
        if (i < 8) {
            return Calls.named("join");
        }
        if (i < 20 && theme == FRAMES_THEME) {
            return Calls.named("mount");
        }
        boolean any = random.nextInt(4) == 0;
        Method method = any ? calls.get(random.nextInt(calls.size()))
            : Calls.named(THEMES[theme][random.nextInt(THEMES[theme].length)]);
        // What ends much takes other calls' ground away, so few of these are made.
        boolean endsMuch = List.of("leave", "empty", "mount", "unsubscribe").contains(method.getName());
        return endsMuch && random.nextInt(4) != 0 ? Calls.named(THEMES[theme][0]) : method;
    }

    private Object[] arguments(Method method) {
        Class<?>[] types = method.getParameterTypes();
        Object[] drawn = new Object[types.length];
        for (int i = 0; i < types.length; i++) {
            if (types[i] == boolean.class) {
                drawn[i] = random.nextBoolean();
            } else if (types[i] == double.class) {
                drawn[i] = coordinate();
            } else {
                drawn[i] = number(method.getName(), i);
            }
        }
        return drawn;
    }

    private double coordinate() {
        if (random.nextInt(oddOnesIn) == 0) {
            return ODD_COORDINATES[random.nextInt(ODD_COORDINATES.length)];
        }
        int reach = random.nextBoolean() ? 20 : 8192;
        return (random.nextInt(2 * reach + 1) - reach) / 8.0;
    }

    private int number(String method, int place) {
        if (random.nextInt(oddOnesIn) == 0) {
            return ODD_NUMBERS[random.nextInt(ODD_NUMBERS.length)];
        }
        switch (method + place) {
            case "publish2":
            case "call1":
                return random.nextInt(8) == 0 ? random.nextInt() : random.nextInt(41) - 20;
            case "sample1":
                sampleTime += random.nextInt(stride);
                return sampleTime;
            case "locate1":
                return sampleTime - random.nextInt(10 * stride);
            case "act2":
                return random.nextInt(6) - (random.nextInt(10) == 0 ? 1 : 0);
            case "act4":
                return random.nextBoolean() ? random.nextInt(4) : random.nextInt(201) - 100;
            case "offer2":
            case "offer3":
            case "sample4":
                return random.nextInt(4);
            case "offer4":
                return random.nextInt(2001) - 1000;
            case "subscribe2":
            case "play0":
                return 1 + random.nextInt(4);
            case "tick0":
                return 1 + random.nextInt(mostTicks);
            case "queued2":
                return random.nextInt(1 + random.nextInt(4));
            case "queued3":
                return random.nextInt(3);
            case "count0":
                return random.nextInt(7);
            default:
                return random.nextInt(random.nextInt(8) == 0 ? 6 : width);
        }
    }
}
