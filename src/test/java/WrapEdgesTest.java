/** "Arithmetic wraps.": a test for each place that reckons with ints, over the upper end and the lower. */
public final class WrapEdgesTest {
    public static void main(String[] args) {
        Check check = new Check();
        variables(check);
        products(check);
        linearServices(check);
        sumServices(check);
        quotientServices(check);
        relayServices(check);
        check.end();
    }

    private static void variables(Check check) {
        String adder = "join 0; subscribe 0 {0,1} 4; act 0 0 0 2 0; act 0 1 1 2 0\n";
        Script.test(check, "ADD wraps over the upper end", adder, """
            publish 0 0 MAX; publish 0 1 1; tick 2
            variable 0 2 = MIN
            publish 0 1 MAX; tick 1
            variable 0 2 = -1
            """);
        Script.test(check, "ADD wraps over the lower end", adder, """
            publish 0 0 MIN; publish 0 1 -1; tick 2
            variable 0 2 = MAX
            publish 0 1 MIN; tick 1
            variable 0 2 = -1
            """);
        Script.test(check, "ADD reaches the ends", adder, """
            publish 0 0 2147483646; publish 0 1 1; tick 2
            variable 0 2 = MAX
            publish 0 0 -2147483647; publish 0 1 -1; tick 2
            variable 0 2 = MIN
            """);
    }

    /** What FORWARD sends with the factor for each value. */
    private static void forwards(Check check, int factor, String... pairs) {
        for (String pair : pairs) {
            String[] values = pair.split(" ");
            Script.test(check, "FORWARD wraps", "join {0,1}; subscribe 0 1 1; subscribe 1 0 1; act 1 0 2 1 " + factor,
                "publish 0 0 " + values[0] + "; tick 1; queued 0 1 0 0 = " + values[1]);
        }
    }

    private static void products(Check check) {
        forwards(check, 100, "21474836 2147483600", "21474837 -2147483596", "-21474836 -2147483600",
            "-21474837 2147483596", "MAX -100", "MIN 0");
        forwards(check, -100, "21474836 -2147483600", "21474837 2147483596", "MAX 100", "MIN 0");
        forwards(check, -1, "MIN MIN", "MAX -2147483647", "-2147483647 MAX");
        forwards(check, 3, "MIN MIN", "MAX 2147483645");
    }

    private static void linearServices(Check check) {
        Script.test(check, "c times the question wraps", """
            join 0; offer 0 0 0 100 0
            call 0 21474836 = 2147483600; call 0 21474837 = -2147483596; call 0 -21474837 = 2147483596
            call 0 MAX = -100; call 0 MIN = 0
            offer 0 0 0 -1 0
            call 0 MIN = MIN; call 0 MAX = -2147483647
            """);
        Script.test(check, "plus d wraps over the upper end", """
            join 0; offer 0 0 0 1 1000
            call 0 2147482647 = MAX; call 0 2147482648 = MIN; call 0 MAX = -2147482649
            """);
        Script.test(check, "plus d wraps over the lower end", """
            join 0; offer 0 0 0 1 -1000
            call 0 -2147482648 = MIN; call 0 -2147482649 = MAX; call 0 MIN = 2147482648
            """);
    }

    private static void sumServices(Check check) {
        Script.test(check, "the variable plus the question wraps over the upper end", """
            join 0; offer 0 0 1 3 0
            call 0 MAX = MAX; call 0 1 = MIN
            variable 0 3 = MIN
            """);
        Script.test(check, "the variable plus the question wraps over the lower end", """
            join 0; offer 0 0 1 3 0
            call 0 MIN = MIN; call 0 -1 = MAX
            variable 0 3 = MAX
            """);
    }

    private static void quotientServices(Check check) {
        Script.test(check, "the least divided by -1 wraps", """
            join 0; subscribe 0 0 1; act 0 0 0 0 0; publish 0 0 -1; tick 1; offer 0 0 2 0 0; offer 0 1 3 0 0
            call 0 MIN = MIN
            call 1 MIN = MIN
            call 0 -2147483647 = MAX
            """);
        Script.test(check, "the least divided by -1 wraps for an ASK, too", """
            join 0; subscribe 0 {0,1} 1; act 0 0 0 0 0; publish 0 0 -1; tick 1; offer 0 0 2 0 0; act 0 1 3 0 1
            publish 0 1 MIN; tick 1
            variable 0 1 = MIN
            count 6 = 0
            """);
    }

    private static void relayServices(Check check) {
        Script.test(check, "the answer of another service plus d wraps over the upper end", """
            join 0; offer 0 0 0 1 0; offer 0 1 3 0 1000; offer 0 2 3 1 1000
            call 1 2147482647 = MAX; call 1 2147482648 = MIN
            call 2 2147481647 = MAX; call 2 2147481648 = MIN; call 2 MAX = -2147481649
            """);
        Script.test(check, "the answer of another service plus d wraps over the lower end", """
            join 0; offer 0 0 0 1 0; offer 0 1 3 0 -1000; offer 0 2 3 1 -1000
            call 1 -2147482648 = MIN; call 1 -2147482649 = MAX
            call 2 -2147481648 = MIN; call 2 -2147481649 = MAX; call 2 MIN = 2147481648
            """);
        Script.test(check, "the variable behind it does not get what is added", """
            join 0; offer 0 0 1 0 0; offer 0 1 3 0 1000
            call 1 MAX = -2147482649
            variable 0 0 = MAX
            """);
    }
}
