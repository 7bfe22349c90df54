/** Promises 14 (keep), 15 (play) and 16 (empty). */
public final class BagTest {
    public static void main(String[] args) {
        Check check = new Check();
        keeps(check);
        recordsWhatIsKept(check);
        holdsThirty(check);
        playsInTime(check);
        playsFromTheFirstTime(check);
        playsAsThePlayer(check);
        playsOnTheTopicsOfTheRecords(check);
        doesNotRecordThePlayer(check);
        playsWhatWasThereAtFirst(check);
        playsBeforeTheSpins(check);
        refusesToPlay(check);
        empties(check);
        check.end();
    }

    private static void keeps(Check check) {
        RobotBus bus = new RobotBus();
        for (int topic = 0; topic < 6; topic++) {
            int number = topic;
            check.due("keep on", 1, () -> bus.keep(number, true));
            check.due("keep on again", 0, () -> bus.keep(number, true));
            check.due("keep off", 1, () -> bus.keep(number, false));
            check.due("keep off again", 0, () -> bus.keep(number, false));
        }
        check.dueThrow("keep(-1)", Check.ARGUMENT, () -> bus.keep(-1, true));
        check.dueThrow("keep(6)", Check.ARGUMENT, () -> bus.keep(6, false));
    }

    private static void recordsWhatIsKept(Check check) {
        RobotBus bus = Check.busWith(0);
        bus.keep(1, true);
        bus.publish(0, 0, 1);
        check.due("another topic", 0, () -> bus.count(3));
        bus.publish(0, 1, 1);
        check.due("the topic", 1, () -> bus.count(3));
        bus.subscribe(0, 0, 1);
        bus.act(0, 0, 2, 1, 1);
        bus.publish(0, 0, 2);
        bus.tick(1);
        check.due("published by an action", 2, () -> bus.count(3));
        bus.keep(1, false);
        bus.publish(0, 1, 3);
        check.due("no longer", 2, () -> bus.count(3));
    }

    private static void holdsThirty(Check check) {
        RobotBus bus = Check.busWith(0);
        bus.keep(0, true);
        for (int i = 1; i <= 31; i++) {
            bus.publish(0, 0, i);
            int want = i < 30 ? i : 30;
            check.due("records behind " + i, want, () -> bus.count(3));
        }
        bus.subscribe(0, 0, 4);
        bus.act(0, 0, 0, 0, 0);
        check.due("play", 30, () -> bus.play(1));
        bus.tick(1);
        check.due("the first ones stayed, the 31st had no room", "28 29 30", () -> Check.values(bus, 0, 0));
        check.due("all at once", 31 + 30, () -> bus.count(2));
        check.due("it plays no more", 0, () -> bus.count(4));
    }

    /** Publishes 1, 2, 3 .. on topic 0 at the clocks given (rising, from the present one on). */
    private static RobotBus recordedAt(int... clocks) {
        RobotBus bus = Check.busWith(0);
        bus.keep(0, true);
        int value = 1;
        for (int clock : clocks) {
            while (bus.count(0) < clock) {
                bus.tick(1);
            }
            bus.publish(0, 0, value);
            value++;
        }
        bus.keep(0, false);
        return bus;
    }

    private static void playsInTime(Check check) {
        int[] clocks = {2, 3, 3, 6, 7, 12};
        for (int speed = 1; speed <= 4; speed++) {
            playsAtSpeed(check, recordedAt(clocks), clocks, speed);
        }
        RobotBus bus = recordedAt(clocks);
        playsAtSpeed(check, bus, clocks, 3);
        playsAtSpeed(check, bus, clocks, 1);
    }

    private static void playsAtSpeed(Check check, RobotBus bus, int[] clocks, int speed) {
        int start = bus.count(0);
        int published = bus.count(2);
        check.due("play", clocks.length, () -> bus.play(speed));
        for (int clock = start + 1; clock <= start + 12; clock++) {
            bus.tick(1);
            int due = 0;
            for (int time : clocks) {
                if (start + Math.ceil((time - clocks[0]) / (double) speed) <= clock) {
                    due++;
                }
            }
            check.due("played at speed " + speed + " by " + (clock - start), published + due, () -> bus.count(2));
            check.due("playing", due < clocks.length ? 1 : 0, () -> bus.count(4));
        }
    }

    private static void playsFromTheFirstTime(Check check) {
        RobotBus bus = recordedAt(20);
        bus.play(1);
        check.due("nothing before a tick", 1, () -> bus.count(2));
        check.due("it is playing", 1, () -> bus.count(4));
        bus.tick(1);
        check.due("record 0 at the first tick", 2, () -> bus.count(2));
        check.due("that was the last", 0, () -> bus.count(4));
        check.due("it can be played again", 1, () -> bus.play(4));
    }

    private static void playsAsThePlayer(Check check) {
        RobotBus bus = recordedAt(0, 5);
        bus.leave(0);
        bus.join(3);
        bus.subscribe(3, 0, 4);
        bus.subscribe(3, 1, 4);
        bus.publish(3, 1, 9);
        bus.publish(3, 1, 9);
        bus.publish(3, 1, 9);
        bus.latch(0, true);
        bus.play(4);
        bus.tick(1);
        bus.tick(1);
        check.due("the value", 2, () -> bus.queued(3, 0, 0, 0));
        check.due("the sender", -1, () -> bus.queued(3, 0, 0, 1));
        check.due("the stamp is the clock of then", 7, () -> bus.queued(3, 0, 0, 2));
        bus.join(0);
        check.due("it is the topic's last one", 1, () -> bus.subscribe(0, 0, 1));
        check.due("with the player as its sender", -1, () -> bus.queued(0, 0, 0, 1));
    }

    private static void playsOnTheTopicsOfTheRecords(Check check) {
        RobotBus bus = Check.busWith(0);
        for (int topic = 5; topic >= 0; topic--) {
            bus.keep(topic, true);
            bus.publish(0, topic, topic * 10);
            bus.subscribe(0, topic, 2);
        }
        bus.play(1);
        bus.tick(1);
        check.due("topic 0 is taken from", "", () -> Check.values(bus, 0, 0));
        for (int topic = 1; topic < 6; topic++) {
            int number = topic;
            check.due("topic " + topic, topic * 10 + "", () -> Check.values(bus, 0, number));
        }
    }

    private static void doesNotRecordThePlayer(Check check) {
        RobotBus bus = recordedAt(0, 1);
        bus.keep(0, true);
        bus.keep(1, true);
        bus.subscribe(0, 0, 4);
        bus.act(0, 0, 2, 1, 5);
        bus.play(1);
        bus.tick(1);
        check.due("an action's answer to the player is recorded, the player is not", 3, () -> bus.count(3));
    }

    private static void playsWhatWasThereAtFirst(Check check) {
        RobotBus bus = recordedAt(0, 4);
        bus.keep(0, true);
        bus.play(1);
        bus.tick(1);
        bus.publish(0, 0, 7);
        check.due("recorded while it plays", 3, () -> bus.count(3));
        bus.tick(3);
        check.due("it ends with the last of then", 0, () -> bus.count(4));
        check.due("the new record was not played", 2 + 2 + 1, () -> bus.count(2));
        check.due("but is there the next time", 3, () -> bus.play(1));
    }

    private static void playsBeforeTheSpins(Check check) {
        RobotBus bus = recordedAt(0, 0);
        bus.subscribe(0, 0, 4);
        bus.act(0, 0, 1, 0, 0);
        bus.play(1);
        bus.tick(1);
        check.due("taken in the same tick", 1, () -> bus.variable(0, 0));
        check.due("in order", "2", () -> Check.values(bus, 0, 0));
    }

    private static void refusesToPlay(Check check) {
        RobotBus bus = new RobotBus();
        check.dueThrow("speed 0", Check.ARGUMENT, () -> bus.play(0));
        check.dueThrow("speed 5", Check.ARGUMENT, () -> bus.play(5));
        check.dueThrow("speed -1", Check.ARGUMENT, () -> bus.play(-1));
        check.dueThrow("an empty bag", Check.UNSUPPORTED, () -> bus.play(1));
        RobotBus full = recordedAt(0, 3);
        full.play(1);
        check.dueThrow("it plays", Check.STATE, () -> full.play(1));
        check.dueThrow("the speed first", Check.ARGUMENT, () -> full.play(0));
        full.tick(3);
        check.due("it goes on as begun", 0, () -> full.count(4));
    }

    private static void empties(Check check) {
        RobotBus bus = recordedAt(0, 2, 3);
        bus.play(1);
        check.dueThrow("it plays", Check.STATE, () -> bus.empty());
        check.due("all are there", 3, () -> bus.count(3));
        bus.tick(3);
        check.due("empty", 3, () -> bus.empty());
        check.due("none is there", 0, () -> bus.count(3));
        check.due("empty again", 0, () -> bus.empty());
        check.dueThrow("nothing to play", Check.UNSUPPORTED, () -> bus.play(1));
        bus.keep(0, true);
        bus.publish(0, 0, 9);
        check.due("filled anew", 1, () -> bus.play(1));
    }
}
