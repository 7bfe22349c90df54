/** The boundary cases of promises 1 (a new object), 2 (join), 3 (leave) and 12 (variable), a sentence each. */
public final class NodeEdgesTest {
    /** Node 2 keeps in its variable 3 what it takes from topic 0, and has taken 7. */
    private static final String NODE_2_HAS_7 = """
        join 2; subscribe 2 0 4; act 2 0 0 3 0; publish 2 0 7; tick 1
        """;

    public static void main(String[] args) {
        Check check = new Check();
        newObject(check);
        join(check);
        leave(check);
        leavesWithAllItHas(check);
        leavesTheOthersAsTheyAre(check);
        variable(check);
        check.end();
    }

    private static void newObject(Check check) {
        Script.test(check, "NODES 0 .. 5 are there or not (at first)", """
            leave {0..5} ! MISSING
            variable {0..5} 0 ! MISSING
            publish {0..5} 0 1 ! MISSING
            join {0..5} = 1
            leave {0..5} = 0
            """);
        Script.test(check, "each has VARIABLES 0 .. 3, ints, 0 when it comes", """
            join {0..5} = 1
            variable {0..5} {0..3} = 0
            """);
        Script.test(check, "ints: the least and the greatest", """
            join 0; subscribe 0 0 1; act 0 0 0 1 0
            publish 0 0 MIN; tick 1; variable 0 1 = MIN
            publish 0 0 MAX; tick 1; variable 0 1 = MAX
            """);
        Script.test(check, "0 when it comes, the second time, too", """
            join 0; subscribe 0 0 1
            act 0 0 0 0 0; publish 0 0 4; tick 1
            act 0 0 0 1 0; publish 0 0 5; tick 1
            act 0 0 0 2 0; publish 0 0 6; tick 1
            act 0 0 0 3 0; publish 0 0 7; tick 1
            variable 0 0 = 4; variable 0 1 = 5; variable 0 2 = 6; variable 0 3 = 7
            leave 0; join 0
            variable 0 {0..3} = 0
            """);
    }

    private static void join(Check check) {
        Script.test(check, "join: IllegalArgumentException: not 0 .. 5", """
            join {-1,6,7,-2,MIN,MAX} ! ARGUMENT
            join {0,5} = 1
            join {-1,6} ! ARGUMENT
            """);
        Script.test(check, "join: IllegalStateException: it is there", """
            join {0..5} = 1
            join {0..5} ! STATE
            leave 5 = 0
            join 4 ! STATE
            join 5 = 1
            join 5 ! STATE
            """);
        Script.test(check, "join: a refused one leaves the node as it is", NODE_2_HAS_7, """
            publish 2 0 8
            join 2 ! STATE
            variable 2 3 = 7
            queued 2 0 0 0 = 8
            tick 1
            variable 2 3 = 8
            """);
    }

    private static void leave(Check check) {
        Script.test(check, "leave: NoSuchElementException: it is not there", """
            leave {-1,6,MIN,MAX} ! MISSING
            leave {0..5} ! MISSING
            join {0,5} = 1
            leave {1..4} ! MISSING
            leave {0,5} = 0
            leave {0,5} ! MISSING
            """);
        Script.test(check, "leave: answers how many messages were in its queues: none without a queue", """
            join {0,1}; publish 0 0 1
            leave 1 = 0
            """);
        Script.test(check, "leave: none in empty queues", """
            join 0; subscribe 0 {0..5} 4
            leave 0 = 0
            """);
        Script.test(check, "leave: six full queues", """
            join {0,1}; subscribe {0,1} {0..5} 4
            4 * publish 0 {0..5} 1 = 2
            leave 1 = 24
            leave 0 = 24
            count 1 = 0
            """);
        Script.test(check, "leave: those that were taken and those that were lost are not in them", """
            join 0; subscribe 0 0 2; subscribe 0 1 4
            3 * publish 0 0 1; 2 * publish 0 1 1
            tick 1
            leave 0 = 3
            count 1 = 1
            """);
        Script.test(check, "leave: the queues of others are not its own", """
            join {0,1}; subscribe 0 0 4; subscribe 1 0 1
            3 * publish 1 0 1 = 2
            leave 1 = 1
            leave 0 = 3
            """);
    }

    private static void leavesWithAllItHas(Check check) {
        Script.test(check, "A node goes, with its variables", NODE_2_HAS_7, """
            leave 2 = 0
            variable 2 {0..3} ! MISSING
            join 2 = 1
            variable 2 {0..3} = 0
            """);
        Script.test(check, "A node goes, with its queues", """
            join {1,2}; subscribe 2 {0..5} 4; publish 1 {0..5} 5 = 1
            leave 2 = 6
            publish 1 {0..5} 6 = 0
            queued 2 {0..5} 0 0 ! MISSING
            join 2 = 1
            queued 2 {0..5} 0 0 ! MISSING
            publish 1 {0..5} 7 = 0
            unsubscribe 2 {0..5} ! MISSING
            subscribe 2 {0..5} 4 = 0
            """);
        Script.test(check, "A node goes, with its actions", """
            join 2; act 2 {0..5} 0 0 0 = 1
            leave 2; join 2
            subscribe 2 {0..5} 1; publish 2 {0..5} 9; tick 6
            variable 2 0 = 0
            count 5 = 0
            act 2 {0..5} -1 0 0 = 1
            """);
        Script.test(check, "A node goes, with its services", """
            join 2; offer 2 {0..3} 0 1 0 = 1
            leave 2
            call {0..3} 5 ! MISSING
            join 2
            call {0..3} 5 ! MISSING
            offer 2 {0..3} 0 1 0 = 1
            """);
        Script.test(check, "A node that is not there does not spin, nor is it asked by others", """
            join {0,2}; offer 2 1 0 1 0; offer 0 3 3 1 0
            call 3 5 = 5
            subscribe 2 0 4; act 2 0 2 1 1; subscribe 0 1 4; publish 0 0 7
            leave 2 = 1
            tick 8
            count 5 = 0
            queued 0 1 0 0 ! MISSING
            call 3 5 ! MISSING
            """);
        Script.test(check, "A node that comes again spins from 0 at first, not behind what it took from before", """
            join 2; subscribe 2 4 1; publish 2 4 7; tick 1
            leave 2; join 2
            subscribe 2 {0..5} 1; act 2 {0..5} 0 0 0; publish 2 5 50; publish 2 0 10; tick 1
            variable 2 0 = 10
            """);
        Script.test(check, "all its numbers are free again for who comes", """
            join {0..5} = 1
            leave {0..5} = 0
            join {0..5} = 1
            """);
    }

    private static void leavesTheOthersAsTheyAre(Check check) {
        Script.test(check, "leave: what others have stays", NODE_2_HAS_7, """
            join {1,3}; offer 2 2 0 10 1; offer 1 1 0 1 0; offer 3 3 3 2 0
            subscribe {1,3} 0 4; publish 2 0 8 = 3
            leave 1 = 1; leave 3 = 1
            variable 2 3 = 7
            queued 2 0 0 0 = 8
            call 2 5 = 51
            call {1,3} 5 ! MISSING
            tick 1
            variable 2 3 = 8
            """);
    }

    private static void variable(Check check) {
        Script.test(check, "variable: NoSuchElementException: no such node", """
            variable {-1,6,MIN,MAX} 0 ! MISSING
            variable {0..5} 0 ! MISSING
            join {0,5} = 1
            variable {0,5} 0 = 0
            variable {-1,1,4,6} 0 ! MISSING
            leave 5
            variable 5 0 ! MISSING
            """);
        Script.test(check, "variable: IllegalArgumentException: not 0 .. 3", """
            join 3
            variable 3 {0,3} = 0
            variable 3 {-1,4,MIN,MAX} ! ARGUMENT
            """);
        Script.test(check, "variable: each is its own", NODE_2_HAS_7, """
            join {1,3}
            variable 2 {0..2} = 0
            variable 2 3 = 7
            variable {1,3} {0..3} = 0
            """);
    }
}
