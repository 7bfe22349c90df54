/** Promise 21 (count). */
public final class CountTest {
    public static void main(String[] args) {
        Check check = new Check();
        counts(check);
        refuses(check);
        check.end();
    }

    private static void counts(Check check) {
        RobotBus bus = Check.busWith(0);
        bus.keep(0, true);
        bus.subscribe(0, 0, 1);
        bus.act(0, 0, 3, 1, 0);
        counted(check, bus, "before", 0, 0, 0, 0, 0, 0, 0);
        bus.publish(0, 0, 1);
        counted(check, bus, "published", 0, 0, 1, 1, 0, 0, 0);
        bus.publish(0, 0, 2);
        counted(check, bus, "one is lost", 0, 1, 2, 2, 0, 0, 0);
        bus.tick(1);
        counted(check, bus, "an ASK that fails", 1, 1, 2, 2, 0, 1, 1);
        bus.tick(4);
        counted(check, bus, "nothing to take", 5, 1, 2, 2, 0, 1, 1);
        bus.play(1);
        counted(check, bus, "playing", 5, 1, 2, 2, 1, 1, 1);
        bus.offer(0, 1, 0, 1, 0);
        bus.tick(1);
        counted(check, bus, "both are played, one is lost, an ASK is answered", 6, 2, 4, 2, 0, 2, 1);
        bus.empty();
        counted(check, bus, "emptied", 6, 2, 4, 0, 0, 2, 1);
        bus.leave(0);
        counted(check, bus, "left", 6, 2, 4, 0, 0, 2, 1);
    }

    private static void counted(Check check, RobotBus bus, String when, int... want) {
        for (int what = 0; what < want.length; what++) {
            int number = what;
            check.due("count(" + what + ") " + when, want[what], () -> bus.count(number));
        }
    }

    private static void refuses(Check check) {
        RobotBus bus = new RobotBus();
        for (int what : new int[] {-1, 7, Integer.MIN_VALUE, Integer.MAX_VALUE}) {
            check.dueThrow("count(" + what + ")", Check.ARGUMENT, () -> bus.count(what));
        }
    }
}
