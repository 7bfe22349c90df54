import java.io.IOException;
import java.lang.reflect.Method;
import java.nio.file.Files;
import java.nio.file.Path;
import java.util.Set;
import java.util.TreeSet;
import java.util.regex.Matcher;
import java.util.regex.Pattern;

/** The calls that README.md shows answer what stands behind them, and it shows every call of the face. */
public final class ReadmeTest {
    private static final Path README = Path.of("README.md");
    private static final String NEW_OBJECT = "RobotBus bus = new RobotBus();";
    private static final Pattern CALL = Pattern.compile("bus\\.(\\w+)\\((.*?)\\);\\s+// (throws \\w+|[-\\d.]+)(:.*)?");

    private ReadmeTest() {
    }

    public static void main(String[] args) throws IOException {
        Check check = new Check();
        Set<String> shown = new TreeSet<>();
        RobotBus bus = null;
        boolean inJava = false;
        for (String line : Files.readAllLines(README)) {
            if (line.startsWith("```")) {
                inJava = line.equals("```java");
            } else if (line.equals(NEW_OBJECT)) {
                bus = new RobotBus();
            } else if (inJava) {
                shown.add(compare(check, bus, line));
            }
        }
        for (Method method : Calls.all()) {
            check.tell("README.md shows " + method.getName(), "true", String.valueOf(shown.contains(method.getName())));
        }
        check.end();
    }

    /** Answers the name of the call. */
    private static String compare(Check check, RobotBus bus, String line) {
        Matcher call = CALL.matcher(line);
        if (!call.matches()) {
            check.tell("README.md: " + line, "a call and its answer", "something else");
            return "";
        }
        String row = call.group(1) + " " + call.group(2).replace(",", "");
        String due = call.group(3).replace("throws ", "throws.");
        check.tell("README.md: " + line, due, Script.rows(row).get(0).outcome(bus));
        return call.group(1);
    }
}
