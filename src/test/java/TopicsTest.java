/** Promises 4 (latch), 5 (subscribe), 6 (unsubscribe), 7 (publish) and 13 (queued). */
public final class TopicsTest {
    public static void main(String[] args) {
        Check check = new Check();
        latches(check);
        givesTheLastToTheNewlySubscribed(check);
        changesTheDepth(check);
        refusesSubscriptions(check);
        unsubscribes(check);
        publishes(check);
        losesTheOldest(check);
        readsQueues(check);
        check.end();
    }

    private static void latches(Check check) {
        RobotBus bus = new RobotBus();
        for (int topic = 0; topic < 6; topic++) {
            int number = topic;
            check.due("latch on", 1, () -> bus.latch(number, true));
            check.due("latch on again", 0, () -> bus.latch(number, true));
            check.due("latch off", 1, () -> bus.latch(number, false));
            check.due("latch off again", 0, () -> bus.latch(number, false));
        }
        check.dueThrow("latch(-1)", Check.ARGUMENT, () -> bus.latch(-1, true));
        check.dueThrow("latch(6)", Check.ARGUMENT, () -> bus.latch(6, false));
    }

    private static void givesTheLastToTheNewlySubscribed(Check check) {
        RobotBus bus = Check.busWith(0, 1, 2);
        bus.latch(3, true);
        check.due("latched without a last one", 0, () -> bus.subscribe(1, 3, 2));
        bus.tick(4);
        bus.publish(0, 3, 8);
        bus.publish(0, 3, 9);
        bus.tick(1);
        bus.leave(0);
        check.due("another depth is no new subscription", 1, () -> bus.subscribe(1, 3, 4));
        check.due("newly subscribed", 1, () -> bus.subscribe(2, 3, 4));
        check.due("the last value", 9, () -> bus.queued(2, 3, 0, 0));
        check.due("with its sender", 0, () -> bus.queued(2, 3, 0, 1));
        check.due("and its stamp", 4, () -> bus.queued(2, 3, 0, 2));
        check.due("that is no publishing", 2, () -> bus.count(2));
        bus.unsubscribe(2, 3);
        check.due("newly subscribed again", 1, () -> bus.subscribe(2, 3, 1));
        bus.unsubscribe(2, 3);
        bus.latch(3, false);
        check.due("no longer latched", 0, () -> bus.subscribe(2, 3, 1));
        bus.publish(1, 4, 5);
        bus.latch(4, true);
        check.due("latched behind the publishing", 1, () -> bus.subscribe(2, 4, 1));
        check.due("nothing was lost", 0, () -> bus.count(1));
    }

    private static void changesTheDepth(Check check) {
        RobotBus bus = Check.busWith(0);
        bus.subscribe(0, 1, 4);
        for (int value = 1; value <= 4; value++) {
            bus.publish(0, 1, value);
        }
        check.due("the same depth", 4, () -> bus.subscribe(0, 1, 4));
        check.due("depth 3", 3, () -> bus.subscribe(0, 1, 3));
        check.due("the oldest goes", "2 3 4", () -> Check.values(bus, 0, 1));
        check.due("and is lost", 1, () -> bus.count(1));
        check.due("depth 1", 1, () -> bus.subscribe(0, 1, 1));
        check.due("the two oldest go", "4", () -> Check.values(bus, 0, 1));
        check.due("and are lost", 3, () -> bus.count(1));
        check.due("depth 2", 1, () -> bus.subscribe(0, 1, 2));
        bus.publish(0, 1, 5);
        check.due("there is room again", "4 5", () -> Check.values(bus, 0, 1));
        bus.publish(0, 1, 6);
        check.due("for as many", "5 6", () -> Check.values(bus, 0, 1));
    }

    private static void refusesSubscriptions(Check check) {
        RobotBus bus = Check.busWith(0);
        check.dueThrow("topic 6", Check.ARGUMENT, () -> bus.subscribe(0, 6, 1));
        check.dueThrow("topic -1", Check.ARGUMENT, () -> bus.subscribe(0, -1, 1));
        check.dueThrow("depth 0", Check.ARGUMENT, () -> bus.subscribe(0, 0, 0));
        check.dueThrow("depth 5", Check.ARGUMENT, () -> bus.subscribe(0, 0, 5));
        check.dueThrow("depth -1", Check.ARGUMENT, () -> bus.subscribe(0, 0, -1));
        check.dueThrow("the node first", Check.MISSING, () -> bus.subscribe(1, 6, 5));
        check.dueThrow("node -1", Check.MISSING, () -> bus.subscribe(-1, 0, 1));
        check.dueThrow("node 6", Check.MISSING, () -> bus.subscribe(6, 0, 1));
        check.due("nobody is subscribed", 0, () -> bus.publish(0, 0, 1));
        bus.subscribe(0, 0, 2);
        bus.publish(0, 0, 1);
        check.dueThrow("depth 0 of a queue", Check.ARGUMENT, () -> bus.subscribe(0, 0, 0));
        check.due("the queue is as it was", "1", () -> Check.values(bus, 0, 0));
    }

    private static void unsubscribes(Check check) {
        RobotBus bus = Check.busWith(0);
        bus.subscribe(0, 5, 2);
        bus.act(0, 5, 0, 0, 0);
        bus.publish(0, 5, 1);
        bus.publish(0, 5, 2);
        check.due("unsubscribe", 2, () -> bus.unsubscribe(0, 5));
        check.due("what was queued is not lost", 0, () -> bus.count(1));
        check.dueThrow("unsubscribe again", Check.MISSING, () -> bus.unsubscribe(0, 5));
        check.due("publish", 0, () -> bus.publish(0, 5, 3));
        check.dueThrow("topic 6", Check.ARGUMENT, () -> bus.unsubscribe(0, 6));
        check.dueThrow("topic -1", Check.ARGUMENT, () -> bus.unsubscribe(0, -1));
        check.dueThrow("the node first", Check.MISSING, () -> bus.unsubscribe(1, 6));
        check.due("subscribed anew it is empty", 0, () -> bus.subscribe(0, 5, 2));
        check.due("the action stayed", 0, () -> bus.act(0, 5, 0, 0, 0));
    }

    private static void publishes(Check check) {
        RobotBus bus = Check.busWith(0, 1, 5);
        check.due("to none", 0, () -> bus.publish(0, 2, 1));
        bus.subscribe(0, 2, 1);
        check.due("to its sender", 1, () -> bus.publish(0, 2, 1));
        bus.subscribe(1, 2, 1);
        bus.subscribe(5, 2, 1);
        bus.subscribe(5, 3, 1);
        check.due("to three", 3, () -> bus.publish(1, 2, Integer.MIN_VALUE));
        check.due("its value", Integer.MIN_VALUE, () -> bus.queued(5, 2, 0, 0));
        check.due("other topics have nothing", "", () -> Check.values(bus, 5, 3));
        check.due("published so far", 3, () -> bus.count(2));
        check.dueThrow("topic 6", Check.ARGUMENT, () -> bus.publish(0, 6, 1));
        check.dueThrow("topic -1", Check.ARGUMENT, () -> bus.publish(0, -1, 1));
        check.dueThrow("the node first", Check.MISSING, () -> bus.publish(2, 6, 1));
        check.dueThrow("node -1", Check.MISSING, () -> bus.publish(-1, 0, 1));
        check.dueThrow("node 6", Check.MISSING, () -> bus.publish(6, 0, 1));
        check.due("published so far by then", 3, () -> bus.count(2));
    }

    private static void losesTheOldest(Check check) {
        for (int depth = 1; depth <= 4; depth++) {
            RobotBus bus = Check.busWith(0, 1);
            bus.subscribe(0, 0, depth);
            bus.subscribe(1, 0, 4);
            for (int value = 1; value <= 6; value++) {
                bus.publish(1, 0, value);
            }
            String want = "3 4 5 6".substring((4 - depth) * 2);
            check.due("a queue of depth " + depth, want, () -> Check.values(bus, 0, 0));
            check.due("lost by both queues", 6 - depth + 2, () -> bus.count(1));
        }
    }

    private static void readsQueues(Check check) {
        RobotBus bus = Check.busWith(2, 4);
        bus.subscribe(4, 1, 3);
        bus.publish(2, 1, -7);
        check.due("value", -7, () -> bus.queued(4, 1, 0, 0));
        check.due("sender", 2, () -> bus.queued(4, 1, 0, 1));
        check.due("stamp", 0, () -> bus.queued(4, 1, 0, 2));
        bus.tick(5);
        bus.publish(4, 1, 11);
        bus.publish(2, 1, 12);
        check.due("sender of the oldest", 4, () -> bus.queued(4, 1, 0, 1));
        check.due("stamp of the oldest", 5, () -> bus.queued(4, 1, 0, 2));
        check.due("value of the next", 12, () -> bus.queued(4, 1, 1, 0));
        check.dueThrow("no message 2", Check.MISSING, () -> bus.queued(4, 1, 2, 0));
        check.dueThrow("no message -1", Check.MISSING, () -> bus.queued(4, 1, -1, 0));
        check.dueThrow("no queue", Check.MISSING, () -> bus.queued(4, 2, 0, 0));
        check.dueThrow("no topic 6", Check.MISSING, () -> bus.queued(4, 6, 0, 0));
        check.dueThrow("no topic -1", Check.MISSING, () -> bus.queued(4, -1, 0, 0));
        check.dueThrow("no node 3", Check.MISSING, () -> bus.queued(3, 1, 0, 0));
        check.dueThrow("no node 6", Check.MISSING, () -> bus.queued(6, 1, 0, 0));
        check.dueThrow("what 3", Check.ARGUMENT, () -> bus.queued(4, 1, 0, 3));
        check.dueThrow("what -1", Check.ARGUMENT, () -> bus.queued(4, 1, 0, -1));
        check.dueThrow("the message first", Check.MISSING, () -> bus.queued(4, 1, 2, 3));
        check.dueThrow("the queue first", Check.MISSING, () -> bus.queued(4, 0, 0, 3));
    }
}
