/** Promises 8 (act) and 11 (tick): the actions, the spins and their order. */
public final class ActionsTest {
    public static void main(String[] args) {
        Check check = new Check();
        givesAndTakesActions(check);
        refusesActions(check);
        keepsAndAdds(check);
        forwards(check);
        shows(check);
        asks(check);
        takesTopicsInTurn(check);
        spinsByRisingNumbers(check);
        ticks(check);
        check.end();
    }

    private static void givesAndTakesActions(Check check) {
        RobotBus bus = Check.busWith(0);
        check.due("it had none", 1, () -> bus.act(0, 1, 0, 0, 0));
        check.due("it had one", 0, () -> bus.act(0, 1, 1, 0, 0));
        check.due("another topic has none", 1, () -> bus.act(0, 2, 1, 0, 0));
        check.due("taken away", 0, () -> bus.act(0, 1, -1, 77, -77));
        check.due("taken away again", 1, () -> bus.act(0, 1, -1, 0, 0));
        bus.subscribe(0, 1, 1);
        bus.publish(0, 1, 5);
        bus.tick(1);
        check.due("no action is done", 0, () -> bus.count(5));
        check.due("but the message is taken", "", () -> Check.values(bus, 0, 1));
        check.due("the variable", 0, () -> bus.variable(0, 0));
    }

    private static void refusesActions(Check check) {
        RobotBus bus = Check.busWith(0);
        int[][] good = {
            {0, 0, -999}, {0, 3, 999}, {1, 0, -999}, {1, 3, 999}, {2, 0, -100}, {2, 5, 100},
            {3, 0, 0}, {3, 3, 3}, {4, 0, 0}, {4, 5, 3}, {-1, 99, 999},
        };
        int[][] bad = {
            {0, -1, 0}, {0, 4, 0}, {1, -1, 0}, {1, 4, 0}, {2, -1, 0}, {2, 6, 0}, {2, 0, -101}, {2, 0, 101},
            {3, -1, 0}, {3, 4, 0}, {3, 0, -1}, {3, 0, 4}, {4, -1, 0}, {4, 6, 0}, {4, 0, -1}, {4, 0, 4},
            {-2, 0, 0}, {5, 0, 0},
        };
        for (int[] action : bad) {
            check.dueThrow("act " + text(action), Check.ARGUMENT,
                () -> bus.act(0, 0, action[0], action[1], action[2]));
        }
        check.due("none was given", 1, () -> bus.act(0, 0, 0, 0, 0));
        for (int[] action : good) {
            check.due("act " + text(action), 0, () -> bus.act(0, 0, action[0], action[1], action[2]));
        }
        check.dueThrow("topic 6", Check.ARGUMENT, () -> bus.act(0, 6, 0, 0, 0));
        check.dueThrow("topic -1 with kind -1", Check.ARGUMENT, () -> bus.act(0, -1, -1, 0, 0));
        check.dueThrow("the node first", Check.MISSING, () -> bus.act(1, 6, 9, 9, 9));
        check.dueThrow("node -1", Check.MISSING, () -> bus.act(-1, 0, 0, 0, 0));
        check.dueThrow("node 6", Check.MISSING, () -> bus.act(6, 0, 0, 0, 0));
    }

    private static String text(int[] numbers) {
        return java.util.Arrays.toString(numbers);
    }

    private static void keepsAndAdds(Check check) {
        RobotBus bus = Check.busWith(0);
        bus.subscribe(0, 0, 4);
        bus.subscribe(0, 1, 4);
        bus.act(0, 0, 0, 2, 0);
        bus.act(0, 1, 1, 2, 0);
        bus.publish(0, 0, Integer.MAX_VALUE);
        bus.tick(1);
        check.due("kept", Integer.MAX_VALUE, () -> bus.variable(0, 2));
        bus.publish(0, 1, 2);
        bus.tick(1);
        check.due("added, around", Integer.MIN_VALUE + 1, () -> bus.variable(0, 2));
        check.due("the others stay", 0, () -> bus.variable(0, 0) + bus.variable(0, 1) + bus.variable(0, 3));
        check.due("actions done", 2, () -> bus.count(5));
    }

    private static void forwards(Check check) {
        RobotBus bus = Check.busWith(2, 3);
        bus.subscribe(3, 0, 1);
        bus.subscribe(2, 4, 4);
        bus.act(3, 0, 2, 4, -100);
        bus.publish(2, 0, 30000000);
        bus.tick(1);
        check.due("value times b, around", 30000000 * -100, () -> bus.queued(2, 4, 0, 0));
        check.due("sent by the node", 3, () -> bus.queued(2, 4, 0, 1));
        check.due("stamped at the tick", 1, () -> bus.queued(2, 4, 0, 2));
        check.due("published so far", 2, () -> bus.count(2));
    }

    private static void shows(Check check) {
        RobotBus bus = Check.busWith(0, 3);
        bus.subscribe(3, 0, 1);
        bus.subscribe(3, 1, 1);
        bus.subscribe(0, 5, 1);
        bus.act(3, 0, 0, 1, 0);
        bus.act(3, 1, 4, 5, 1);
        bus.publish(0, 0, 42);
        bus.publish(0, 1, 7);
        bus.tick(2);
        check.due("the variable, not the value", 42, () -> bus.queued(0, 5, 0, 0));
        check.due("sent by the node", 3, () -> bus.queued(0, 5, 0, 1));
        check.due("stamped at the tick", 2, () -> bus.queued(0, 5, 0, 2));
        check.due("actions done", 2, () -> bus.count(5));
    }

    private static void asks(Check check) {
        RobotBus bus = Check.busWith(0, 1);
        bus.subscribe(1, 0, 4);
        bus.act(1, 0, 3, 2, 3);
        bus.offer(0, 2, 0, 10, 1);
        bus.publish(0, 0, 4);
        bus.tick(1);
        check.due("the answer", 41, () -> bus.variable(1, 3));
        bus.offer(0, 2, 2, 0, 0);
        bus.publish(0, 0, 5);
        bus.tick(1);
        check.due("a failure by a 0 changes nothing", 41, () -> bus.variable(1, 3));
        check.due("it is counted", 1, () -> bus.count(6));
        bus.leave(0);
        bus.publish(1, 0, 6);
        bus.tick(1);
        check.due("none offers it", 41, () -> bus.variable(1, 3));
        check.due("that is counted, too", 2, () -> bus.count(6));
        check.due("all three are done", 3, () -> bus.count(5));
        check.dueThrow("a call that fails", Check.MISSING, () -> bus.call(2, 1));
        check.due("is not by an action", 2, () -> bus.count(6));
        bus.offer(1, 2, 1, 3, 0);
        bus.publish(1, 0, -1);
        bus.tick(1);
        check.due("it asks itself", 40, () -> bus.variable(1, 3));
    }

    private static void takesTopicsInTurn(Check check) {
        RobotBus bus = Check.busWith(0);
        for (int topic : new int[] {1, 3, 5}) {
            bus.subscribe(0, topic, 4);
            bus.act(0, topic, 0, 0, 0);
            bus.publish(0, topic, topic * 10);
            bus.publish(0, topic, topic * 10 + 1);
        }
        for (int want : new int[] {10, 30, 50, 11}) {
            bus.tick(1);
            check.due("taken in turn", want, () -> bus.variable(0, 0));
        }
        bus.publish(0, 1, 12);
        for (int want : new int[] {31, 51, 12}) {
            bus.tick(1);
            check.due("a new one waits for its turn", want, () -> bus.variable(0, 0));
        }
        bus.publish(0, 1, 13);
        bus.tick(1);
        check.due("the same topic, where it is the only one", 13, () -> bus.variable(0, 0));
        bus.tick(3);
        bus.publish(0, 1, 14);
        bus.publish(0, 3, 32);
        bus.tick(1);
        check.due("a spin without a message leaves the turn", 32, () -> bus.variable(0, 0));
    }

    private static void spinsByRisingNumbers(Check check) {
        RobotBus bus = Check.busWith(4, 2, 0);
        bus.subscribe(2, 0, 4);
        bus.subscribe(0, 1, 4);
        bus.subscribe(4, 1, 4);
        bus.act(2, 0, 2, 1, 3);
        bus.act(0, 1, 0, 0, 0);
        bus.act(4, 1, 0, 0, 0);
        bus.publish(0, 0, 5);
        bus.tick(1);
        check.due("a later node takes it in the same tick", 15, () -> bus.variable(4, 0));
        check.due("an earlier one does not", 0, () -> bus.variable(0, 0));
        bus.tick(1);
        check.due("but in the next", 15, () -> bus.variable(0, 0));
    }

    private static void ticks(Check check) {
        RobotBus bus = Check.busWith(1);
        check.due("tick(1)", 1, () -> bus.tick(1));
        check.due("tick(8)", 9, () -> bus.tick(8));
        for (int n : new int[] {0, 9, -1, Integer.MIN_VALUE, Integer.MAX_VALUE}) {
            check.dueThrow("tick(" + n + ")", Check.ARGUMENT, () -> bus.tick(n));
        }
        check.due("the clock", 9, () -> bus.count(0));
        bus.subscribe(1, 0, 4);
        bus.act(1, 0, 1, 0, 0);
        for (int value = 1; value <= 4; value++) {
            bus.publish(1, 0, value);
        }
        bus.tick(3);
        check.due("one message a tick", 6, () -> bus.variable(1, 0));
        check.due("one is left", "4", () -> Check.values(bus, 1, 0));
    }
}
