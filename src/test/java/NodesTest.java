/** Promises 2 (join), 3 (leave) and 12 (variable). */
public final class NodesTest {
    public static void main(String[] args) {
        Check check = new Check();
        joins(check);
        leavesWithAllItHas(check);
        leavesServicesOfOthers(check);
        comesBackAsNew(check);
        forgetsAllVariables(check);
        readsVariables(check);
        check.end();
    }

    private static void joins(Check check) {
        RobotBus bus = new RobotBus();
        for (int node = 0; node < 6; node++) {
            int number = node;
            check.due("join(" + node + ")", 1, () -> bus.join(number));
            check.dueThrow("join(" + node + ") again", Check.STATE, () -> bus.join(number));
        }
        for (int node : new int[] {-1, 6, Integer.MIN_VALUE, Integer.MAX_VALUE}) {
            check.dueThrow("join(" + node + ")", Check.ARGUMENT, () -> bus.join(node));
        }
    }

    private static void leavesWithAllItHas(Check check) {
        RobotBus bus = Check.busWith(0, 1);
        bus.subscribe(1, 0, 4);
        bus.subscribe(1, 5, 2);
        bus.subscribe(0, 5, 2);
        for (int value = 1; value <= 3; value++) {
            bus.publish(0, 0, value);
            bus.publish(0, 5, value);
        }
        int lost = bus.count(1);
        check.due("leave answers what was queued", 5, () -> bus.leave(1));
        check.due("what was queued is not lost", lost, () -> bus.count(1));
        check.dueThrow("leave again", Check.MISSING, () -> bus.leave(1));
        check.due("publish reaches the others alone", 1, () -> bus.publish(0, 5, 4));
        for (int node : new int[] {-1, 2, 6, Integer.MIN_VALUE, Integer.MAX_VALUE}) {
            check.dueThrow("leave(" + node + ")", Check.MISSING, () -> bus.leave(node));
        }
    }

    private static void leavesServicesOfOthers(Check check) {
        RobotBus bus = Check.busWith(0, 1);
        bus.offer(0, 0, 0, 1, 0);
        bus.offer(1, 1, 0, 1, 0);
        bus.offer(0, 2, 0, 1, 0);
        bus.leave(0);
        check.dueThrow("a service of who left", Check.MISSING, () -> bus.call(0, 7));
        check.due("a service of who stayed", 7, () -> bus.call(1, 7));
        check.dueThrow("another service of who left", Check.MISSING, () -> bus.call(2, 7));
        check.due("offer in place of who left", 1, () -> bus.offer(1, 0, 0, 1, 0));
        bus.join(0);
        check.dueThrow("its service does not come back", Check.MISSING, () -> bus.call(2, 7));
    }

    private static void comesBackAsNew(Check check) {
        RobotBus bus = Check.busWith(0);
        bus.subscribe(0, 2, 3);
        bus.act(0, 2, 0, 3, 0);
        bus.publish(0, 2, 9);
        bus.tick(1);
        bus.publish(0, 2, 8);
        check.due("the variable before", 9, () -> bus.variable(0, 3));
        check.due("leave", 1, () -> bus.leave(0));
        bus.join(0);
        check.due("the variable behind", 0, () -> bus.variable(0, 3));
        check.dueThrow("the queue behind", Check.MISSING, () -> bus.queued(0, 2, 0, 0));
        check.due("publish behind", 0, () -> bus.publish(0, 2, 7));
        check.due("act behind", 1, () -> bus.act(0, 2, -1, 0, 0));
        bus.subscribe(0, 0, 1);
        bus.subscribe(0, 3, 1);
        bus.publish(0, 0, 1);
        bus.publish(0, 3, 2);
        bus.tick(1);
        check.due("its spins begin from topic 0 again", "", () -> Check.values(bus, 0, 0));
        check.due("and not behind the topic of before", "2", () -> Check.values(bus, 0, 3));
    }

    private static void forgetsAllVariables(Check check) {
        RobotBus bus = Check.busWith(0);
        bus.subscribe(0, 0, 1);
        for (int variable = 0; variable < 4; variable++) {
            int number = variable;
            bus.act(0, 0, 0, variable, 0);
            bus.publish(0, 0, variable + 5);
            bus.tick(1);
            check.due("variable " + variable, variable + 5, () -> bus.variable(0, number));
        }
        bus.leave(0);
        bus.join(0);
        for (int variable = 0; variable < 4; variable++) {
            int number = variable;
            check.due("variable " + variable + " forgotten", 0, () -> bus.variable(0, number));
        }
    }

    private static void readsVariables(Check check) {
        RobotBus bus = Check.busWith(5);
        for (int variable = 0; variable < 4; variable++) {
            int number = variable;
            check.due("variable(5, " + variable + ")", 0, () -> bus.variable(5, number));
        }
        check.dueThrow("variable(5, 4)", Check.ARGUMENT, () -> bus.variable(5, 4));
        check.dueThrow("variable(5, -1)", Check.ARGUMENT, () -> bus.variable(5, -1));
        check.dueThrow("variable(4, 0)", Check.MISSING, () -> bus.variable(4, 0));
        check.dueThrow("variable(6, 9): the node first", Check.MISSING, () -> bus.variable(6, 9));
        check.dueThrow("variable(-1, 9): the node first", Check.MISSING, () -> bus.variable(-1, 9));
    }
}
