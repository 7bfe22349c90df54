import java.util.List;

/**
 * "a call that throws changes nothing, but where told": of two objects in the same state one gets a call that is to
 * throw; behind it both must answer alike, whatever they are asked. What changes nothing by its answer is tested so,
 * too.
 */
public final class RefusedCallsTest {
    /** Nodes 0, 1, 2 and 4 with full, half full and empty queues, all kinds of actions and services, frames, a bag. */
    private static final String BUSY = """
        join {0,1,2,4}; latch {1,2} true; keep {0,3} true
        subscribe 0 0 2; subscribe 0 1 4; subscribe 1 1 1; subscribe 1 2 3; subscribe 2 3 4; subscribe 4 5 2
        act 0 0 0 1 0; act 0 1 1 2 0; act 1 1 2 3 -3; act 1 2 3 3 0; act 2 3 4 5 1; act 4 5 1 0 0
        offer 0 0 1 1 7; offer 1 1 2 3 0; offer 2 2 3 1 7; offer 4 3 3 0 5
        publish 0 0 21; publish 1 1 22; publish 2 2 23; publish 4 3 24; tick 3
        publish 1 0 31; publish 2 0 32; 3 * publish 4 1 33; publish 0 2 34; 2 * publish 1 3 35; 2 * publish 0 5 36
        mount 1 0; mount 2 1; mount 3 2; mount 4 5
        sample 1 10 1 2 1; sample 1 20 5 8 2; sample 1 30 3 1 3; sample 1 40 2 2 0
        sample 2 15 -3 0.5 0; sample 2 35 4 -9.125 1; sample 3 20 1 1 0; sample 4 20 1 1 0
        locate 3 20 6 7
        """;
    private static final String PLAYING = BUSY + "tick 2; publish 0 3 41; play 2; tick 1; count 4 = 1\n";
    private static final String WITHOUT_NODE_0 = BUSY + "leave 0\n";
    private static final String WITH_AN_EMPTY_BAG = BUSY + "empty\n";
    private static final String WITH_A_FULL_BAG = BUSY + "24 * publish 2 0 5; count 3 = 30\n";

    /** Each looks at another part of the state. */
    private static final String[] QUESTIONS = {
        "count {0..6}; lastY; variable {0..5} {0..3}; queued {0..5} {0..5} {0..3} 0",
        "queued {0..5} {0..5} {0..3} 1; queued {0..5} {0..5} {0..3} 2",
        "latch {0..5} true; keep {0..5} true; unsubscribe {0..5} {0..5}; act {0..5} {0..5} -1 0 0; leave {0..5}; empty",
        "call {0..3} 9; variable {0..5} {0..3}; call 3 5; call 0 5; variable {0..5} {0..3}; "
            + "offer 1 {0..3} 0 1 0; leave {0..5}; join {0..5}",
        "join {3,5}; subscribe {3,5} {0..5} 4; queued {3,5} {0..5} 0 {0..2}; 5 * publish 5 {0..5} 8; "
            + "queued {0..4} {0..5} {0..3} 0; count {0..6}",
        "12 * tick 1; count {0..6}; variable {0..5} {0..3}; queued {0..5} {0..5} {0..1} {0..2}",
        "play 1; tick 1; count {0..6}; queued {0..4} {0..5} {0..3} 0; 20 * tick 1; count {0..6}; empty; play 1",
        "lastY; locate {0..5} {9,10,15,20,21,25,33,35,40,41} 3 5; lastY",
        "sample {0..5} {10,21,36,41} 8 9 1; locate {0..5} {20,21,36,41} 1 2; lastY; mount {0..5} {0..5}",
        "empty; publish 0 {0..5} 5; publish 4 {0..5} 6; empty; publish 4 {0..5} 7; count {0..6}; leave {0..5}",
    };

    public static void main(String[] args) {
        Check check = new Check();
        refusedWhenBusy(check);
        refusedInOtherStates(check);
        refusedAtTheStart(check);
        answersThatChangeNothing(check);
        check.end();
    }

    private static void refusedWhenBusy(Check check) {
        changesNothing(check, BUSY, """
            join {-1,6,MIN,MAX} ! ARGUMENT; join {0,1,2,4} ! STATE
            leave {-1,3,5,6,MIN,MAX} ! MISSING
            latch {-1,6} {true,false} ! ARGUMENT
            subscribe {-1,3,5,6} 1 2 ! MISSING; subscribe 0 {-1,6} 2 ! ARGUMENT; subscribe 0 {0,1,2} {0,5,-1} ! ARGUMENT
            unsubscribe {-1,3,5,6} 1 ! MISSING; unsubscribe 0 {-1,6} ! ARGUMENT; unsubscribe 0 {2..5} ! MISSING
            publish {-1,3,5,6} 1 99 ! MISSING; publish 0 {-1,6} 99 ! ARGUMENT
            variable {-1,3,6} 0 ! MISSING; variable 0 {-1,4} ! ARGUMENT
            queued {-1,3,6} 0 0 0 ! MISSING; queued 0 {-1,2,6} 0 0 ! MISSING
            queued 0 0 {-1,2} 0 ! MISSING; queued 0 0 0 {-1,3} ! ARGUMENT
            tick {0,9,-1,MIN,MAX} ! ARGUMENT
            count {-1,7} ! ARGUMENT
            """);
        changesNothing(check, BUSY, """
            act {-1,3,5,6} 1 {-1,0} 1 0 ! MISSING; act 0 {-1,6} {-1,0} 1 0 ! ARGUMENT
            act {0,1} 1 {-2,5} 0 0 ! ARGUMENT; act {0,1} 1 {0,1,3} {-1,4} 0 ! ARGUMENT
            act {0,1} 1 {2,4} {-1,6} 0 ! ARGUMENT; act {0,1} 1 2 0 {-101,101} ! ARGUMENT
            act {0,1} 1 {3,4} 0 {-1,4} ! ARGUMENT
            offer {-1,3,5,6} 1 0 1 0 ! MISSING; offer 0 {-1,4} 0 1 0 ! ARGUMENT; offer 0 {0,3} {-1,4} 0 0 ! ARGUMENT
            offer 0 {1,3} 0 {-101,101} 0 ! ARGUMENT; offer 0 {1,3} {1,2} {-1,4} 0 ! ARGUMENT
            offer 0 {1,3} 3 {-1,3,4} 0 ! ARGUMENT; offer 0 {1,3} {0..3} 0 {-1001,1001} ! ARGUMENT
            call {-1,4} 5 ! ARGUMENT; call {1,2} 5 ! ARITHMETIC
            """);
        changesNothing(check, BUSY, """
            keep {-1,6} {true,false} ! ARGUMENT
            play {0,5,-1} ! ARGUMENT
            mount {-1,0,6} 1 ! ARGUMENT; mount {1,5} {-1,6} ! ARGUMENT; mount 1 {1,2,3} ! STATE; mount 5 {4,5} ! STATE
            sample {-1,0,5,6} 50 1 1 1 ! MISSING; sample {1,2} 50 {0.1,1024.125,NaN} 1 1 ! ARGUMENT
            sample {1,2} 50 1 {0.1,-1024.125,NaN} 1 ! ARGUMENT; sample {1,2} 50 1 1 {-1,4} ! ARGUMENT
            sample {1,2} {-1,100001} 1 1 1 ! ARGUMENT; sample 1 {0,39,40} 1 1 1 ! STATE; sample 2 35 1 1 1 ! STATE
            locate {-1,6} 20 1 3 ! ARGUMENT; locate {0,1} 20 {0.1,1025,NaN} 3 ! ARGUMENT
            locate {0,1} 20 3 {0.1,1025,NaN} ! ARGUMENT; locate {4,5} 20 1 3 ! MISSING
            locate 1 {9,41} 1 3 ! ARITHMETIC; locate 2 {14,36} 1 3 ! ARITHMETIC; locate 3 {19,21} 1 3 ! ARITHMETIC
            """);
    }

    private static void refusedInOtherStates(Check check) {
        changesNothing(check, PLAYING, """
            play {1..4} ! STATE; play {0,5} ! ARGUMENT; empty ! STATE
            tick {0,9} ! ARGUMENT; publish 0 6 1 ! ARGUMENT; keep 6 true ! ARGUMENT; call 2 5 ! ARITHMETIC
            """);
        changesNothing(check, WITHOUT_NODE_0, """
            leave 0 ! MISSING; publish 0 0 9 ! MISSING; act 0 0 0 0 0 ! MISSING; subscribe 0 0 1 ! MISSING
            unsubscribe 0 0 ! MISSING; offer 0 0 0 0 0 ! MISSING; variable 0 0 ! MISSING; queued 0 0 0 0 ! MISSING
            call {0,3} 5 ! MISSING; call {1,2} 5 ! ARITHMETIC
            """);
        changesNothing(check, WITH_AN_EMPTY_BAG, "play {1..4} ! UNSUPPORTED; play {0,5} ! ARGUMENT");
        changesNothing(check, WITH_A_FULL_BAG, """
            play {0,5} ! ARGUMENT; publish 2 6 1 ! ARGUMENT; publish 3 0 1 ! MISSING
            """);
    }

    private static void refusedAtTheStart(Check check) {
        changesNothing(check, "", """
            join {-1,6} ! ARGUMENT; leave {0..5} ! MISSING; latch 6 true ! ARGUMENT; keep 6 true ! ARGUMENT
            subscribe 0 0 1 ! MISSING; unsubscribe 0 0 ! MISSING; publish 0 0 1 ! MISSING; act 0 0 0 0 0 ! MISSING
            offer 0 0 0 0 0 ! MISSING; call {0..3} 1 ! MISSING; tick 0 ! ARGUMENT; variable 0 0 ! MISSING
            queued 0 0 0 0 ! MISSING; play 1 ! UNSUPPORTED; mount 1 1 ! STATE; sample 1 0 0 0 0 ! MISSING
            locate 1 0 1 2 ! MISSING; count 7 ! ARGUMENT
            """);
    }

    private static void answersThatChangeNothing(Check check) {
        changesNothing(check, BUSY, """
            variable {0,4} {0..3}; queued 0 1 {0..2} {0..2}; count {0..6}; lastY
            latch {1,2} true = 0; latch {0,3} false = 0; keep {0,3} true = 0; keep {1,2} false = 0
            act 0 2 -1 0 0 = 1; subscribe 0 1 4 = 3; act 0 0 0 1 99 = 0; offer 2 2 3 1 7 = 0
            locate 3 20 6 7
            """);
        changesNothing(check, PLAYING, "count {0..6}; keep 3 true = 0; queued 0 1 0 0; lastY");
        changesNothing(check, WITH_AN_EMPTY_BAG, "empty = 0");
    }

    private static void changesNothing(Check check, String state, String rows) {
        List<Script.Row> before = Script.rows(state);
        for (String text : QUESTIONS) {
            List<Script.Row> questions = Script.rows(text);
            Script.limit(check, text, before.size() + 1 + questions.size());
            for (Script.Row row : Script.rows(rows)) {
                compare(check, before, row, questions);
            }
        }
    }

    private static void compare(Check check, List<Script.Row> before, Script.Row row, List<Script.Row> questions) {
        RobotBus untouched = after(check, before);
        RobotBus touched = after(check, before);
        Script.compare(check, "a call that is to change nothing", row, touched);
        for (Script.Row question : questions) {
            String due = question.outcome(untouched);
            check.tell(question.text() + " behind " + row.text(), due, question.outcome(touched));
        }
    }

    private static RobotBus after(Check check, List<Script.Row> rows) {
        RobotBus bus = new RobotBus();
        for (Script.Row row : rows) {
            Script.compare(check, "the state before", row, bus);
        }
        return bus;
    }
}
