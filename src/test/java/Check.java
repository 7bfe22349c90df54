/** Compares answers with those that are due, tells every one that is not, and ends the program by them. */
final class Check {
    interface Call {
        Object answer();
    }

    static final Class<? extends RuntimeException> ARGUMENT = IllegalArgumentException.class;
    static final Class<? extends RuntimeException> STATE = IllegalStateException.class;
    static final Class<? extends RuntimeException> MISSING = java.util.NoSuchElementException.class;
    static final Class<? extends RuntimeException> ARITHMETIC = ArithmeticException.class;
    static final Class<? extends RuntimeException> UNSUPPORTED = UnsupportedOperationException.class;

    private int wrong = 0;

    void due(String what, Object want, Call call) {
        tell(what, String.valueOf(want), outcome(call));
    }

    /** A zero is one with either sign. */
    void dueNumber(String what, double want, double got) {
        if (want != got) {
            tell(what, String.valueOf(want), String.valueOf(got));
        }
    }

    void dueThrow(String what, Class<? extends RuntimeException> want, Call call) {
        tell(what, thrown(want), outcome(call));
    }

    void tell(String what, String want, String got) {
        if (!want.equals(got)) {
            wrong++;
            System.out.println(what + " answered " + got + ", due is " + want);
        }
    }

    void end() {
        if (wrong != 0) {
            System.out.println(wrong + " answers are not as due");
            System.exit(1);
        }
    }

    static String outcome(Call call) {
        try {
            return String.valueOf(call.answer());
        } catch (RuntimeException e) {
            return thrown(e.getClass());
        }
    }

    static String thrown(Class<?> exception) {
        return "throws." + exception.getSimpleName();
    }

    /** A new object on which the nodes given are there. */
    static RobotBus busWith(int... nodes) {
        RobotBus bus = new RobotBus();
        for (int node : nodes) {
            bus.join(node);
        }
        return bus;
    }

    /** The values in a queue, the oldest first. */
    static String values(RobotBus bus, int node, int topic) {
        StringBuilder text = new StringBuilder();
        for (int k = 0; k < 4; k++) {
            int place = k;
            String value = outcome(() -> bus.queued(node, topic, place, 0));
            if (value.startsWith("throws")) {
                break;
            }
            text.append(text.length() == 0 ? "" : " ").append(value);
        }
        return text.toString();
    }
}
