/** Promises 17 (mount), 18 (sample), 19 (locate) and 20 (lastY). */
public final class FramesTest {
    private static final double[] NO_COORDINATES = {
        1024.125, -1024.125, 0.1, 0.0625, -0.0625, 1023.9375, Double.MIN_VALUE, 1e300, -1e300, 1e-300,
        Double.NaN, Double.POSITIVE_INFINITY, Double.NEGATIVE_INFINITY, 268435456.0, 536870912.0,
    };

    public static void main(String[] args) {
        Check check = new Check();
        mounts(check);
        refusesLoops(check);
        samples(check);
        refusesSamples(check);
        locatesInTheRoot(check);
        turns(check);
        locatesInBetween(check);
        roundsDown(check);
        locatesThroughAll(check);
        refusesToLocate(check);
        keepsTheLastY(check);
        check.end();
    }

    private static void place(Check check, RobotBus bus, int frame, int time, double x, double y, double... want) {
        String what = "locate(" + frame + ", " + time + ", " + x + ", " + y + ")";
        check.dueNumber(what, want[0], bus.locate(frame, time, x, y));
        check.dueNumber(what + " and lastY", want[1], bus.lastY());
    }

    private static void mounts(Check check) {
        RobotBus bus = new RobotBus();
        check.due("no parent before", -1, () -> bus.mount(1, 0));
        check.due("parent 0 before", 0, () -> bus.mount(1, 5));
        check.due("parent 5 before", 5, () -> bus.mount(1, 5));
        int[][] bad = {{0, 1}, {0, 0}, {-1, 0}, {6, 0}, {1, -1}, {1, 6}, {6, 6}, {Integer.MIN_VALUE, 0}};
        for (int[] row : bad) {
            check.dueThrow("mount(" + row[0] + ", " + row[1] + ")", Check.ARGUMENT,
                () -> bus.mount(row[0], row[1]));
        }
        bus.mount(2, 0);
        bus.sample(2, 5, 1, 1, 0);
        bus.mount(2, 0);
        check.dueThrow("mounted anew it has no samples", Check.ARITHMETIC, () -> bus.locate(2, 5, 0, 0));
        check.due("and takes an earlier one", 1, () -> bus.sample(2, 3, 1, 1, 0));
    }

    private static void refusesLoops(Check check) {
        RobotBus bus = new RobotBus();
        check.dueThrow("on itself", Check.STATE, () -> bus.mount(3, 3));
        for (int frame = 1; frame < 5; frame++) {
            bus.mount(frame, frame + 1);
        }
        for (int frame = 1; frame < 5; frame++) {
            int lower = frame;
            check.dueThrow("5 on " + frame, Check.STATE, () -> bus.mount(5, lower));
        }
        bus.sample(3, 0, 1, 1, 0);
        check.dueThrow("3 on 1", Check.STATE, () -> bus.mount(3, 1));
        check.dueThrow("a refused mount leaves the samples", Check.STATE, () -> bus.sample(3, 0, 1, 1, 0));
        check.due("and the parent", 4, () -> bus.mount(3, 0));
        check.due("then the loop is none", -1, () -> bus.mount(5, 1));
    }

    private static void samples(Check check) {
        RobotBus bus = new RobotBus();
        bus.mount(1, 0);
        for (int i = 0; i < 6; i++) {
            int time = i * 10;
            check.due("samples", i < 4 ? i + 1 : 4, () -> bus.sample(1, time, time, -time, 0));
        }
        check.dueThrow("the first went", Check.ARITHMETIC, () -> bus.locate(1, 0, 0, 0));
        check.dueThrow("the second, too", Check.ARITHMETIC, () -> bus.locate(1, 19, 0, 0));
        for (int time = 20; time <= 50; time++) {
            place(check, bus, 1, time, 0, 0, time, -time);
        }
        check.dueThrow("behind the last", Check.ARITHMETIC, () -> bus.locate(1, 51, 0, 0));
        RobotBus turned = new RobotBus();
        turned.mount(1, 0);
        for (int time = 0; time < 6; time++) {
            turned.sample(1, time, 0, 0, time % 4);
        }
        place(check, turned, 1, 2, 1, 0, -1, 0);
        place(check, turned, 1, 3, 1, 0, 0, -1);
        place(check, turned, 1, 4, 1, 0, 1, 0);
        place(check, turned, 1, 5, 1, 0, 0, 1);
        RobotBus edge = new RobotBus();
        edge.mount(5, 0);
        check.due("the least", 1, () -> edge.sample(5, 0, -1024, -1024, 0));
        check.due("the greatest", 2, () -> edge.sample(5, 100000, 1024, 1024, 3));
        place(check, edge, 5, 0, -1024, 1024, -2048, 0);
        place(check, edge, 5, 99999, 0, 0, 1023.875, 1023.875);
        place(check, edge, 5, 100000, -0.0, 0.125, 1024.125, 1024);
    }

    private static void refusesSamples(Check check) {
        RobotBus bus = new RobotBus();
        for (int frame = -1; frame <= 6; frame++) {
            int number = frame;
            check.dueThrow("frame " + frame + " has no parent", Check.MISSING,
                () -> bus.sample(number, -1, Double.NaN, 0, 9));
        }
        bus.mount(1, 2);
        for (double wrong : NO_COORDINATES) {
            check.dueThrow("x " + wrong, Check.ARGUMENT, () -> bus.sample(1, 0, wrong, 0, 0));
            check.dueThrow("y " + wrong, Check.ARGUMENT, () -> bus.sample(1, 0, 0, wrong, 0));
        }
        check.dueThrow("turn -1", Check.ARGUMENT, () -> bus.sample(1, 0, 0, 0, -1));
        check.dueThrow("turn 4", Check.ARGUMENT, () -> bus.sample(1, 0, 0, 0, 4));
        check.dueThrow("time -1", Check.ARGUMENT, () -> bus.sample(1, -1, 0, 0, 0));
        check.dueThrow("time 100001", Check.ARGUMENT, () -> bus.sample(1, 100001, 0, 0, 0));
        check.due("none was taken", 1, () -> bus.sample(1, 50, 0, 0, 0));
        check.dueThrow("the same time", Check.STATE, () -> bus.sample(1, 50, 1, 0, 0));
        check.dueThrow("an earlier time", Check.STATE, () -> bus.sample(1, 49, 1, 0, 0));
        check.dueThrow("the arguments first", Check.ARGUMENT, () -> bus.sample(1, 49, 0.1, 0, 0));
        check.due("a later time", 2, () -> bus.sample(1, 51, 1, 0, 0));
    }

    private static void locatesInTheRoot(Check check) {
        RobotBus bus = new RobotBus();
        for (int time : new int[] {Integer.MIN_VALUE, -1, 0, 100001, Integer.MAX_VALUE}) {
            place(check, bus, 0, time, 1024, -1024, 1024, -1024);
            place(check, bus, 0, time, -0.125, 0.375, -0.125, 0.375);
        }
    }

    private static void turns(Check check) {
        double[][] want = {{13, 105}, {5, 103}, {7, 95}, {15, 97}};
        for (int turn = 0; turn < 4; turn++) {
            RobotBus bus = new RobotBus();
            bus.mount(1, 0);
            bus.sample(1, 7, 10, 100, turn);
            place(check, bus, 1, 7, 3, 5, want[turn]);
            check.dueThrow("before the only sample", Check.ARITHMETIC, () -> bus.locate(1, 6, 3, 5));
            check.dueThrow("behind the only sample", Check.ARITHMETIC, () -> bus.locate(1, 8, 3, 5));
        }
    }

    private static void locatesInBetween(Check check) {
        RobotBus bus = new RobotBus();
        bus.mount(1, 0);
        bus.sample(1, 10, 0, 0, 1);
        bus.sample(1, 14, 8, -8, 2);
        bus.sample(1, 16, 8, 8, 3);
        place(check, bus, 1, 10, 1, 0, 0, 1);
        place(check, bus, 1, 11, 1, 0, 2, -1);
        place(check, bus, 1, 13, 1, 0, 6, -5);
        place(check, bus, 1, 14, 1, 0, 7, -8);
        place(check, bus, 1, 15, 1, 0, 7, 0);
        place(check, bus, 1, 16, 1, 0, 8, 7);
    }

    private static void roundsDown(Check check) {
        RobotBus bus = new RobotBus();
        bus.mount(1, 0);
        bus.sample(1, 0, 0, 0, 0);
        bus.sample(1, 3, 0.125, -0.125, 0);
        bus.sample(1, 6, -0.5, 1, 0);
        place(check, bus, 1, 1, 0, 0, 0, -0.125);
        place(check, bus, 1, 2, 0, 0, 0, -0.125);
        place(check, bus, 1, 3, 0, 0, 0.125, -0.125);
        place(check, bus, 1, 4, 0, 0, -0.125, 0.25);
        place(check, bus, 1, 5, 0, 0, -0.375, 0.625);
        RobotBus far = new RobotBus();
        far.mount(1, 0);
        far.sample(1, 0, 1024, -1024, 0);
        far.sample(1, 100000, -1024, 1024, 0);
        place(check, far, 1, 1, 0, 0, 1023.875, -1024);
        place(check, far, 1, 99999, 0, 0, -1024, 1023.875);
        place(check, far, 1, 50000, 0, 0, 0, 0);
    }

    private static void locatesThroughAll(Check check) {
        RobotBus bus = new RobotBus();
        for (int frame = 5; frame > 0; frame--) {
            bus.mount(frame, frame == 5 ? 0 : frame + 1);
            bus.sample(frame, 0, 1024, 1024, 0);
            bus.sample(frame, 10, 1024, 1024, 1);
        }
        place(check, bus, 1, 0, 1024, 1024, 6144, 6144);
        place(check, bus, 1, 10, 0, 0, 1024, 1024);
        place(check, bus, 4, 10, 8, 0, 1024 - 1024 - 8, 1024 + 1024);
        bus.mount(3, 4);
        check.dueThrow("one above is nowhere", Check.ARITHMETIC, () -> bus.locate(1, 0, 0, 0));
        check.dueThrow("it is nowhere", Check.ARITHMETIC, () -> bus.locate(3, 0, 0, 0));
        place(check, bus, 4, 0, 0, 0, 2048, 2048);
        bus.sample(3, 20, 0, 0, 0);
        check.dueThrow("not at one time", Check.ARITHMETIC, () -> bus.locate(2, 20, 0, 0));
    }

    private static void refusesToLocate(Check check) {
        RobotBus bus = new RobotBus();
        for (int frame : new int[] {-1, 6, Integer.MIN_VALUE, Integer.MAX_VALUE}) {
            check.dueThrow("frame " + frame, Check.ARGUMENT, () -> bus.locate(frame, 0, 0, 0));
        }
        for (double wrong : NO_COORDINATES) {
            check.dueThrow("x " + wrong, Check.ARGUMENT, () -> bus.locate(0, 0, wrong, 0));
            check.dueThrow("y " + wrong, Check.ARGUMENT, () -> bus.locate(0, 0, 0, wrong));
            check.dueThrow("the arguments first", Check.ARGUMENT, () -> bus.locate(1, 0, wrong, 0));
        }
        check.dueThrow("no parent", Check.MISSING, () -> bus.locate(1, 0, 0, 0));
        bus.mount(1, 2);
        bus.mount(2, 3);
        check.dueThrow("the way before the places", Check.MISSING, () -> bus.locate(1, 0, 0, 0));
        bus.mount(3, 0);
        check.dueThrow("no samples", Check.ARITHMETIC, () -> bus.locate(1, 0, 0, 0));
    }

    private static void keepsTheLastY(Check check) {
        RobotBus bus = new RobotBus();
        check.dueNumber("lastY before", 0, bus.lastY());
        bus.mount(1, 0);
        check.dueThrow("nowhere", Check.ARITHMETIC, () -> bus.locate(1, 0, 3, 5));
        check.dueNumber("lastY before an answer", 0, bus.lastY());
        bus.sample(1, 0, 2, 4, 0);
        place(check, bus, 1, 0, 3, 5, 5, 9);
        check.dueThrow("nowhere", Check.ARITHMETIC, () -> bus.locate(1, 1, 7, 7));
        check.dueThrow("no way", Check.MISSING, () -> bus.locate(2, 0, 7, 7));
        check.dueThrow("no frame", Check.ARGUMENT, () -> bus.locate(6, 0, 7, 7));
        check.dueNumber("lastY behind failures", 9, bus.lastY());
        bus.mount(1, 0);
        check.dueNumber("lastY behind a mount", 9, bus.lastY());
        place(check, bus, 0, 0, 1, -2, 1, -2);
    }
}
