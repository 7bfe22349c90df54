/** Promises 9 (offer) and 10 (call). */
public final class ServicesTest {
    public static void main(String[] args) {
        Check check = new Check();
        offers(check);
        refusesOffers(check);
        answersLinear(check);
        answersSums(check);
        answersQuotients(check);
        answersOfOthers(check);
        refusesCalls(check);
        check.end();
    }

    /** A bus whose node 0 has the value given in its variable. */
    private static RobotBus busWithVariable(int variable, int value) {
        RobotBus bus = Check.busWith(0);
        bus.subscribe(0, 0, 1);
        bus.act(0, 0, 0, variable, 0);
        bus.publish(0, 0, value);
        bus.tick(1);
        return bus;
    }

    private static void offers(Check check) {
        RobotBus bus = Check.busWith(0, 1);
        check.due("none did", 1, () -> bus.offer(0, 3, 0, 2, 1));
        check.due("itself did", 0, () -> bus.offer(0, 3, 0, 3, 1));
        check.due("its new answer", 31, () -> bus.call(3, 10));
        check.due("another did", 0, () -> bus.offer(1, 3, 0, 4, 1));
        check.due("the other's answer", 41, () -> bus.call(3, 10));
        bus.leave(0);
        check.due("the other stays", 41, () -> bus.call(3, 10));
    }

    private static void refusesOffers(Check check) {
        RobotBus bus = Check.busWith(0);
        int[][] bad = {
            {-1, 0, 0, 0}, {4, 0, 0, 0}, {0, -1, 0, 0}, {0, 4, 0, 0}, {0, 0, -101, 0}, {0, 0, 101, 0},
            {0, 1, -1, 0}, {0, 1, 4, 0}, {0, 2, -1, 0}, {0, 2, 4, 0}, {0, 3, 0, 0}, {0, 3, -1, 0},
            {2, 3, 2, 0}, {3, 3, 3, 0}, {3, 3, 4, 0}, {1, 3, 2, 0}, {1, 3, -1, 0},
            {0, 0, 0, -1001}, {0, 0, 0, 1001}, {0, 1, 0, 1001}, {0, 2, 0, -1001}, {1, 3, 0, 1001},
        };
        for (int[] row : bad) {
            check.dueThrow("offer " + java.util.Arrays.toString(row), Check.ARGUMENT,
                () -> bus.offer(0, row[0], row[1], row[2], row[3]));
        }
        int[][] good = {
            {0, 0, -100, -1000}, {0, 0, 100, 1000}, {0, 1, 0, 1000}, {0, 1, 3, 0}, {0, 2, 0, -1000}, {0, 2, 3, 0},
            {1, 3, 0, 0}, {3, 3, 2, 1000}, {3, 3, 0, -1000}, {2, 3, 1, 0},
        };
        boolean[] offered = new boolean[4];
        for (int[] row : good) {
            check.due("offer " + java.util.Arrays.toString(row), offered[row[0]] ? 0 : 1,
                () -> bus.offer(0, row[0], row[1], row[2], row[3]));
            offered[row[0]] = true;
        }
        check.dueThrow("the node first", Check.MISSING, () -> bus.offer(1, 4, 4, 999, 9999));
        check.dueThrow("node -1", Check.MISSING, () -> bus.offer(-1, 0, 0, 0, 0));
        check.dueThrow("node 6", Check.MISSING, () -> bus.offer(6, 0, 0, 0, 0));
    }

    private static void answersLinear(Check check) {
        RobotBus bus = Check.busWith(0);
        bus.offer(0, 0, 0, -100, 1000);
        check.due("c times the question plus d", 700, () -> bus.call(0, 3));
        check.due("around", Integer.MAX_VALUE * -100 + 1000, () -> bus.call(0, Integer.MAX_VALUE));
    }

    private static void answersSums(Check check) {
        RobotBus bus = busWithVariable(2, Integer.MAX_VALUE);
        bus.join(1);
        bus.offer(0, 1, 1, 2, 500);
        check.due("the variable plus the question, without d, around", Integer.MIN_VALUE, () -> bus.call(1, 1));
        check.due("the variable becomes the answer", Integer.MIN_VALUE, () -> bus.variable(0, 2));
        check.due("that of another node stays", 0, () -> bus.variable(1, 2));
        check.due("again", Integer.MIN_VALUE + 5, () -> bus.call(1, 5));
    }

    private static void answersQuotients(Check check) {
        RobotBus bus = busWithVariable(3, -4);
        bus.offer(0, 2, 2, 3, 500);
        check.due("toward 0 from below", -2, () -> bus.call(2, 11));
        check.due("toward 0 from above", 2, () -> bus.call(2, -11));
        check.due("a small question", 0, () -> bus.call(2, 3));
        check.due("the variable stays", -4, () -> bus.variable(0, 3));
        bus.publish(0, 0, -1);
        bus.tick(1);
        check.due("around", Integer.MIN_VALUE, () -> bus.call(2, Integer.MIN_VALUE));
        bus.publish(0, 0, 0);
        bus.tick(1);
        check.dueThrow("by 0", Check.ARITHMETIC, () -> bus.call(2, 1));
        check.dueThrow("0 by 0", Check.ARITHMETIC, () -> bus.call(2, 0));
    }

    private static void answersOfOthers(Check check) {
        RobotBus bus = busWithVariable(1, 10);
        bus.join(5);
        bus.offer(5, 3, 3, 2, 1000);
        bus.offer(5, 2, 3, 0, -1);
        check.dueThrow("one that it asks is not offered", Check.MISSING, () -> bus.call(3, 7));
        bus.offer(0, 0, 1, 1, 0);
        check.due("the answer of the answer", 17 - 1 + 1000, () -> bus.call(3, 7));
        check.due("the variable at the end becomes its own answer", 17, () -> bus.variable(0, 1));
        check.due("from the middle", 17 + 3 - 1, () -> bus.call(2, 3));
        bus.offer(0, 0, 2, 0, 0);
        check.dueThrow("a failure at the end", Check.ARITHMETIC, () -> bus.call(3, 7));
        bus.leave(5);
        check.dueThrow("the first is gone", Check.MISSING, () -> bus.call(3, 7));
        check.dueThrow("the last is there", Check.ARITHMETIC, () -> bus.call(0, 7));
        bus.join(5);
        bus.offer(5, 1, 0, 2, 3);
        bus.offer(5, 2, 3, 1, 100);
        check.due("one step", 2 * 7 + 3 + 100, () -> bus.call(2, 7));
        bus.offer(0, 1, 2, 1, 0);
        check.due("of a quotient", 40 / 20 + 100, () -> bus.call(2, 40));
    }

    private static void refusesCalls(Check check) {
        RobotBus bus = Check.busWith(0);
        for (int service : new int[] {-1, 4, Integer.MIN_VALUE, Integer.MAX_VALUE}) {
            check.dueThrow("call(" + service + ")", Check.ARGUMENT, () -> bus.call(service, 0));
        }
        for (int service = 0; service < 4; service++) {
            int number = service;
            check.dueThrow("call(" + service + ")", Check.MISSING, () -> bus.call(number, 0));
        }
        check.due("calls that fail are not counted", 0, () -> bus.count(6));
    }
}
