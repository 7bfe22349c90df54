/** The boundary cases of promise 21 (count), and of the 512 calls that an object is used for, a sentence each. */
public final class CountEdgesTest {
    public static void main(String[] args) {
        Check check = new Check();
        numbers(check);
        lost(check);
        published(check);
        ofTheBag(check);
        actions(check);
        failedCalls(check);
        lastCalls(check);
        check.end();
    }

    private static void numbers(Check check) {
        Script.test(check, "count: all are 0 at first", "count {0..6} = 0");
        Script.test(check, "count: IllegalArgumentException: another number", """
            count {-1,7,8,MIN,MAX} ! ARGUMENT
            count {0,6} = 0
            """);
        Script.test(check, "count: each has its own number", """
            join {0,1}; tick 7; keep 1 true; subscribe 0 0 1; 6 * publish 0 0 1; act 0 0 3 0 0; tick 1
            2 * publish 0 1 1; publish 0 0 1; tick 1; act 0 0 0 0 0; publish 0 0 1; tick 1; play 1
            count 0 = 10; count 1 = 5; count 2 = 10; count 3 = 2; count 4 = 1; count 5 = 3; count 6 = 2
            """);
        Script.test(check, "count: The clock (0) goes by ticks alone", """
            join 0; publish 0 0 1; mount 1 0; sample 1 500 0 0 0; locate 1 500 0 0
            count 0 = 0
            tick 8
            2 * count 0 = 8
            """);
    }

    private static void lost(Check check) {
        Script.test(check, "messages lost so far (1): the oldest of a full queue, and those beyond another depth", """
            join 0; subscribe 0 0 4; 4 * publish 0 0 1
            count 1 = 0
            publish 0 0 1; count 1 = 1
            subscribe 0 0 2; count 1 = 3
            """);
        Script.test(check, "messages lost: not what is taken or gone with its queue, nor what reaches none", """
            join {0,1}; publish 0 0 1; subscribe {0,1} 0 4; 3 * publish 0 0 1; tick 1
            unsubscribe 0 0 = 2
            leave 1 = 2
            count 1 = 0
            """);
    }

    private static void published(Check check) {
        Script.test(check, "published so far (2): once each, however many queues it goes into", """
            join {0..5}; publish 0 0 1 = 0
            count 2 = 1
            subscribe {0..5} 0 1; publish 0 0 1 = 6
            count 2 = 2
            """);
        Script.test(check, "published so far (2): by actions and by the player, too", """
            join 0; subscribe 0 0 4; act 0 0 2 1 1; publish 0 0 1; tick 1
            count 2 = 2
            act 0 0 4 1 0; publish 0 0 1; tick 1
            count 2 = 4
            keep 1 true; 3 * publish 0 1 1; play 1; tick 1
            count 2 = 10
            """);
        Script.test(check, "published so far (2): what is refused is not, nor what is latched and given", """
            join 0; latch 0 true; publish 0 0 1; publish 0 6 1 ! ARGUMENT; publish 1 0 1 ! MISSING
            subscribe 0 0 1 = 1
            count 2 = 1
            """);
    }

    private static void ofTheBag(Check check) {
        Script.test(check, "records in the bag (3)", """
            join 0; keep 0 true; publish 0 0 1
            count 3 = 1
            28 * publish 0 0 1; count 3 = 29
            publish 0 0 1; count 3 = 30
            publish 0 0 1; count 3 = 30
            play 1; count 3 = 30; tick 1; count 3 = 30
            empty = 30
            count 3 = 0
            """);
        Script.test(check, "1 if it is playing else 0 (4)", """
            join 0; keep 0 true; play 1 ! UNSUPPORTED
            count 4 = 0
            publish 0 0 1; tick 2; publish 0 0 1; play 5 ! ARGUMENT
            count 4 = 0
            play 1; count 4 = 1
            tick 1; count 4 = 1
            tick 1; count 4 = 0
            """);
    }

    private static void actions(Check check) {
        Script.test(check, "actions done so far (5): of every kind, an ASK that fails too", """
            join 0; subscribe 0 {0..5} 1; act 0 0 0 0 0; act 0 1 1 0 0; act 0 2 2 5 1; act 0 3 3 0 0; act 0 4 4 5 0
            publish 0 {0..4} 1
            tick 1; count 5 = 1; tick 1; count 5 = 2; tick 1; count 5 = 3; tick 1; count 5 = 4; tick 1; count 5 = 5
            count 6 = 1
            tick 1
            count 5 = 5
            """);
        Script.test(check, "actions done so far (5): not those of a topic without one, nor of a node that is gone", """
            join {0,1}; subscribe {0,1} {0,1} 1; act {0,1} 0 0 0 0; publish 0 1 5; tick 1
            count 5 = 0
            publish 0 0 5; tick 1
            count 5 = 2
            publish 0 0 5; leave 1; tick 1
            count 5 = 3
            leave 0
            count 5 = 3
            """);
    }

    private static void failedCalls(Check check) {
        Script.test(check, "service calls by actions that failed so far (6): not those of call", """
            join 0; offer 0 1 2 0 0; offer 0 2 3 0 0
            call 0 1 ! MISSING; call 1 1 ! ARITHMETIC; call 2 1 ! MISSING; call 4 1 ! ARGUMENT
            count 5 = 0; count 6 = 0
            """);
        Script.test(check, "service calls by actions that failed so far (6): once each, not once a service", """
            join 0; offer 0 1 3 0 0; offer 0 2 3 1 0; offer 0 3 3 2 0; subscribe 0 0 4; act 0 0 3 3 0
            2 * publish 0 0 1; tick 1
            count 6 = 1
            offer 0 0 2 1 0; tick 1
            count 6 = 2
            offer 0 0 0 1 0; publish 0 0 1; tick 1
            count 5 = 3; count 6 = 2
            """);
    }

    private static void lastCalls(Check check) {
        Script.test(check, "An object is used for at most 512 calls: by ticks", "511 * tick 8; tick 8 = 4096");
        Script.test(check, "An object is used for at most 512 calls: by messages", """
            join 0; subscribe 0 0 4; keep 0 true; 508 * publish 0 0 1 = 1
            count 1 = 504
            """);
        Script.test(check, "An object is used for at most 512 calls: by comings and goings",
            "join 0 = 1; leave 0 = 0\n".repeat(256));
        Script.test(check, "An object is used for at most 512 calls: by refused calls", """
            join 0; subscribe 0 0 1; publish 0 0 7
            508 * publish 0 6 1 ! ARGUMENT
            queued 0 0 0 0 = 7
            """);
        Script.test(check, "An object is used for at most 512 calls: by samples", samples());
    }

    private static String samples() {
        StringBuilder rows = new StringBuilder("mount 1 0\n");
        for (int i = 0; i < 510; i++) {
            rows.append("sample 1 " + i + " " + i + " 0 0 = " + (i < 4 ? i + 1 : 4) + "\n");
        }
        return rows.append("locate 1 506 0 0 = 506").toString();
    }
}
