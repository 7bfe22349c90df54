import java.lang.reflect.Method;
import java.util.ArrayList;
import java.util.Arrays;
import java.util.List;
import java.util.Map;

/**
 * Runs of calls on a new object, written as text. Its rows end with a line or a ";":
 *
 * <pre>
 * publish 0 2 5 = 1            the answer that is due
 * join 6 ! ARGUMENT            what is to be thrown, by the names in Check
 * tick 8                       must answer, no matter what
 * 30 * publish 0 2 5 = 1       made 30 times
 * join {0..5} = 1              a row for each number in the braces, the first braces changing slowest
 * join {-1,6,MIN,MAX} = 1      MIN and MAX are the least and the greatest int
 * </pre>
 */
final class Script {
    private static final int CALLS_OF_AN_OBJECT = 512;
    private static final Map<String, Class<? extends RuntimeException>> THROWN = Map.of(
        "ARGUMENT", Check.ARGUMENT, "STATE", Check.STATE, "MISSING", Check.MISSING,
        "ARITHMETIC", Check.ARITHMETIC, "UNSUPPORTED", Check.UNSUPPORTED);

    /** One call, with the answer that is due, or null if any will do. */
    record Row(String text, Method method, Object[] arguments, String due) {
        String outcome(RobotBus bus) {
            return Calls.outcome(method, bus, arguments);
        }
    }

    private Script() {
    }

    /** Makes the rows on a new object; the title is the sentence of the document that they hold to. */
    static void test(Check check, String title, String... rows) {
        List<Row> parsed = rows(rows);
        limit(check, title, parsed.size());
        RobotBus bus = new RobotBus();
        for (int i = 0; i < parsed.size(); i++) {
            compare(check, title + " [row " + (i + 1) + "]", parsed.get(i), bus);
        }
    }

    /** What an object answers behind its last call is not promised, so no test may look at it. */
    static void limit(Check check, String title, int calls) {
        if (calls > CALLS_OF_AN_OBJECT) {
            check.tell(title, "at most " + CALLS_OF_AN_OBJECT + " calls", calls + " calls");
        }
    }

    static void compare(Check check, String title, Row row, RobotBus bus) {
        String got = row.outcome(bus);
        if (row.due() != null) {
            check.tell(title + ": " + row.text(), row.due(), got);
        } else if (got.startsWith("throws")) {
            check.tell(title + ": " + row.text(), "an answer", got);
        }
    }

    static List<Row> rows(String... texts) {
        List<Row> rows = new ArrayList<>();
        for (String line : String.join("\n", texts).split("[;\n]")) {
            String text = line.strip();
            if (!text.isEmpty()) {
                addRepeated(rows, text);
            }
        }
        return rows;
    }

    private static void addRepeated(List<Row> rows, String text) {
        String[] parts = text.split(" \\* ", 2);
        int times = parts.length == 2 ? Integer.parseInt(parts[0]) : 1;
        for (int i = 0; i < times; i++) {
            addExpanded(rows, parts[parts.length - 1]);
        }
    }

    private static void addExpanded(List<Row> rows, String text) {
        int open = text.indexOf('{');
        if (open < 0) {
            rows.add(parse(text));
            return;
        }
        int close = text.indexOf('}', open);
        for (String choice : choices(text.substring(open + 1, close))) {
            addExpanded(rows, text.substring(0, open) + choice + text.substring(close + 1));
        }
    }

    private static List<String> choices(String inside) {
        String[] ends = inside.split("\\.\\.");
        if (ends.length != 2) {
            return Arrays.asList(inside.split(","));
        }
        List<String> numbers = new ArrayList<>();
        for (int i = Integer.parseInt(ends[0]); i <= Integer.parseInt(ends[1]); i++) {
            numbers.add(String.valueOf(i));
        }
        return numbers;
    }

    private static Row parse(String text) {
        String[] sides = text.split(" [=!] ", 2);
        String[] words = sides[0].strip().split(" +");
        Method method = Calls.named(words[0]);
        Class<?>[] types = method.getParameterTypes();
        if (types.length != words.length - 1) {
            throw new IllegalArgumentException("not as many arguments: " + text);
        }
        Object[] arguments = new Object[types.length];
        for (int i = 0; i < types.length; i++) {
            arguments[i] = value(types[i], words[i + 1]);
        }
        String due = null;
        if (text.contains(" = ")) {
            Object answer = value(method.getReturnType(), sides[1].strip());
            due = answer instanceof Double number ? Calls.text(number) : String.valueOf(answer);
        } else if (text.contains(" ! ")) {
            due = Check.thrown(THROWN.get(sides[1].strip()));
        }
        return new Row(text, method, arguments, due);
    }

    private static Object value(Class<?> type, String word) {
        if (type == boolean.class) {
            return Boolean.valueOf(word);
        }
        if (type == double.class) {
            return Double.valueOf(word);
        }
        if (word.equals("MIN")) {
            return Integer.MIN_VALUE;
        }
        return word.equals("MAX") ? (Object) Integer.MAX_VALUE : Integer.valueOf(word);
    }
}
