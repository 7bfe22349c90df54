/** The boundary cases of promises 8 (act) and 11 (tick), and of the actions and spins, a sentence each. */
public final class ActionEdgesTest {
    /** Node 0 keeps in its variable 0 what it takes, from any topic. */
    private static final String KEEPER = "join 0; subscribe 0 {0..5} 4; act 0 {0..5} 0 0 0\n";

    public static void main(String[] args) {
        Check check = new Check();
        act(check);
        actRefusals(check);
        freeArguments(check);
        keepAndAdd(check);
        forwardAndShow(check);
        ask(check);
        asksThatFail(check);
        spin(check);
        spinsAround(check);
        tick(check);
        orderInATick(check);
        check.end();
    }

    private static void act(Check check) {
        Script.test(check, "a node has for each topic an action or none: 1 if it had none, else 0", """
            join {0,1}
            act 0 {0..5} 0 0 0 = 1
            act 0 {0..5} 1 0 0 = 0
            act 1 {0..5} 0 0 0 = 1
            """);
        Script.test(check, "or takes it away (kind -1): 1 if it had none, else 0", """
            join 0
            act 0 3 -1 0 0 = 1
            act 0 3 -1 0 0 = 1
            act 0 3 0 0 0 = 1
            act 0 3 -1 0 0 = 0
            act 0 3 -1 0 0 = 1
            act 0 3 4 0 0 = 1
            """);
        Script.test(check, "taken away: the message is taken, but nothing is done", KEEPER, """
            act 0 2 -1 0 0 = 0
            publish 0 2 7; tick 1
            queued 0 2 0 0 ! MISSING
            variable 0 0 = 0
            count 5 = 0
            publish 0 3 8; tick 1
            variable 0 0 = 8
            count 5 = 1
            """);
        Script.test(check, "another one in its place: the new one alone is done", KEEPER, """
            act 0 2 1 1 0 = 0
            publish 0 2 7; tick 1
            variable 0 0 = 0
            variable 0 1 = 7
            count 5 = 1
            """);
        Script.test(check, "an action for a topic that the node is not subscribed to waits", """
            join 0; act 0 2 0 0 0 = 1; publish 0 2 7; tick 1
            count 5 = 0
            subscribe 0 2 1; publish 0 2 8; tick 1
            variable 0 0 = 8
            """);
    }

    private static void actRefusals(Check check) {
        Script.test(check, "act: NoSuchElementException: no such node", """
            act {-1,6,MIN,MAX} 0 0 0 0 ! MISSING
            act {0..5} 0 {-1,0} 0 0 ! MISSING
            join {0,5}
            act {0,5} 0 0 0 0 = 1
            act {-1,1,4,6} 0 {-1,0} 0 0 ! MISSING
            """);
        Script.test(check, "act: IllegalArgumentException: topic not 0 .. 5", """
            join 0
            act 0 {-1,6,MIN,MAX} {-1,0} 0 0 ! ARGUMENT
            act 0 {0,5} 0 0 0 = 1
            """);
        Script.test(check, "act: IllegalArgumentException: kind not -1 .. 4", """
            join 0
            act 0 0 {-2,5,MIN,MAX} 0 0 ! ARGUMENT
            act 0 0 {-1,0} 0 0 = 1
            act 0 0 {1..4} 0 0 = 0
            """);
        Script.test(check, "act: IllegalArgumentException: a not 0 .. 3 (0, 1, 3)", """
            join 0
            act 0 0 {0,1,3} {-1,4,5,MIN,MAX} 0 ! ARGUMENT
            act 0 0 0 0 0 = 1
            act 0 0 {0,1,3} {0,3} 0 = 0
            """);
        Script.test(check, "act: IllegalArgumentException: a not 0 .. 5 (2, 4)", """
            join 0
            act 0 0 {2,4} {-1,6,MIN,MAX} 0 ! ARGUMENT
            act 0 0 2 0 0 = 1
            act 0 0 {2,4} {0,5} 0 = 0
            """);
        Script.test(check, "act: IllegalArgumentException: b not -100 .. 100 (2)", """
            join 0
            act 0 0 2 0 {-101,101,MIN,MAX} ! ARGUMENT
            act 0 0 2 0 -100 = 1
            act 0 0 2 0 {-100,100} = 0
            """);
        Script.test(check, "act: IllegalArgumentException: b not 0 .. 3 (3, 4)", """
            join 0
            act 0 0 {3,4} 0 {-1,4,MIN,MAX} ! ARGUMENT
            act 0 0 3 0 0 = 1
            act 0 0 {3,4} 0 {0,3} = 0
            """);
        Script.test(check, "act: a refused one leaves the action that it had", KEEPER, """
            act 0 2 {-2,5} 0 0 ! ARGUMENT
            act 0 2 {0,1,3} 4 0 ! ARGUMENT
            act 0 2 {2,4} 6 0 ! ARGUMENT
            act 0 2 2 0 101 ! ARGUMENT
            act 0 2 {3,4} 0 4 ! ARGUMENT
            publish 0 2 7; tick 1
            variable 0 0 = 7
            """);
    }

    private static void freeArguments(Check check) {
        Script.test(check, "act: b is free for the kinds 0 and 1", """
            join 0; subscribe 0 0 4
            act 0 0 0 1 MIN = 1; publish 0 0 5; tick 1; variable 0 1 = 5
            act 0 0 1 1 MAX = 0; publish 0 0 6; tick 1; variable 0 1 = 11
            act 0 0 {0,1} 3 {-101,-1,4,101} = 0
            """);
        Script.test(check, "act: a and b are free for the kind -1", """
            join 0
            act 0 0 -1 {MIN,-1,6,MAX} {MIN,-101,4,101,MAX} = 1
            """);
    }

    private static void keepAndAdd(Check check) {
        Script.test(check, "0 KEEP: the variable a becomes the value, the first and the last", """
            join 0; subscribe 0 {0,1} 4; act 0 0 0 0 0; act 0 1 0 3 0
            publish 0 0 5; publish 0 1 -6; tick 2
            variable 0 0 = 5; variable 0 1 = 0; variable 0 2 = 0; variable 0 3 = -6
            publish 0 0 0; publish 0 1 0; tick 2
            variable 0 {0..3} = 0
            """);
        Script.test(check, "1 ADD: the variable a becomes that plus the value, the first and the last", """
            join 0; subscribe 0 {0,1} 4; act 0 0 1 0 0; act 0 1 1 3 0
            publish 0 0 5; publish 0 1 -6; tick 2
            variable 0 0 = 5; variable 0 1 = 0; variable 0 2 = 0; variable 0 3 = -6
            publish 0 0 -2; publish 0 1 -2; tick 2
            variable 0 0 = 3; variable 0 1 = 0; variable 0 2 = 0; variable 0 3 = -8
            """);
    }

    private static void forwardAndShow(Check check) {
        Script.test(check, "2 FORWARD: publishes value times b, the least, 0 and the greatest", """
            join {0,1}; subscribe 0 5 4; subscribe 1 0 4
            act 1 0 2 5 -100; publish 0 0 7; tick 1; queued 0 5 0 0 = -700
            act 1 0 2 5 0; publish 0 0 7; tick 1; queued 0 5 0 0 = 0
            act 1 0 2 5 100; publish 0 0 7; tick 1; queued 0 5 0 0 = 700
            count 2 = 6
            """);
        Script.test(check, "2 FORWARD: on topic a, the first and the last", """
            join {0,1}; subscribe 0 {0,5} 4; subscribe 1 {1,2} 4; act 1 1 2 0 1; act 1 2 2 5 1
            publish 0 1 7; tick 1
            queued 0 0 0 0 = 7; queued 0 5 0 0 ! MISSING
            publish 0 2 8; tick 1
            queued 0 0 0 0 ! MISSING; queued 0 5 0 0 = 8
            """);
        Script.test(check, "4 SHOW: publishes the variable b on topic a, the first and the last", """
            join {0,1}; subscribe 0 {0,5} 4; subscribe 1 {1,2,3} 4; act 1 1 0 3 0; act 1 2 4 0 3; act 1 3 4 5 0
            publish 0 1 7; publish 0 2 8; publish 0 3 9; tick 2
            queued 0 0 0 0 = 7; queued 0 5 0 0 ! MISSING
            tick 1
            queued 0 0 0 0 ! MISSING; queued 0 5 0 0 = 0
            variable 1 3 = 7; variable 1 0 = 0
            """);
        Script.test(check, "what an action publishes is published: its sender, counted, to who is there", """
            join {0..5}; subscribe {0..4} 1 1; subscribe 5 0 1; act 5 0 2 1 1; publish 0 0 7 = 1; tick 1
            queued {0..4} 1 0 1 = 5
            count 2 = 2
            act 5 0 4 1 0; publish 0 0 7 = 1; tick 1
            queued {0..4} 1 0 1 = 5
            count 2 = 4
            """);
        Script.test(check, "what an action publishes to nobody is published, too", """
            join 0; subscribe 0 0 1; act 0 0 2 1 1; publish 0 0 7; tick 1
            count 2 = 2
            latch 1 true
            subscribe 0 1 1 = 1
            """);
    }

    private static void ask(Check check) {
        Script.test(check, "3 ASK: calls the service a, and the variable b becomes the answer: first and last", """
            join {0,1}; offer 1 0 0 2 0; offer 1 3 0 3 0; subscribe 0 {0,1} 4; act 0 0 3 0 3; act 0 1 3 3 0
            publish 1 0 5; publish 1 1 6; tick 2
            variable 0 3 = 10; variable 0 0 = 18; variable 0 1 = 0; variable 0 2 = 0
            variable 1 {0..3} = 0
            count 5 = 2
            count 6 = 0
            """);
        Script.test(check, "3 ASK: the service's own variable becomes its answer, then the variable b the whole", """
            join 0; offer 0 0 1 2 0; offer 0 1 3 0 100; subscribe 0 0 4; act 0 0 3 1 2
            publish 0 0 5; tick 1
            variable 0 2 = 105
            publish 0 0 1; tick 1
            variable 0 2 = 206
            """);
        Script.test(check, "3 ASK: a node may ask itself, and one that took nothing", """
            join {0,5}; offer 5 0 1 1 0; offer 0 1 0 1 1; subscribe 0 {0,1} 1; act 0 0 3 0 0; act 0 1 3 1 1
            publish 0 {0,1} 7; tick 2
            variable 0 0 = 7; variable 5 1 = 7; variable 0 1 = 8
            """);
    }

    private static void asksThatFail(Check check) {
        String title = "3 ASK: if that fails nothing happens but that it is counted: ";
        String asker = "join {0,1}; subscribe 0 {0,1} 4; act 0 0 0 2 0; publish 0 0 9; tick 1; act 0 1 3 3 2\n";
        Script.test(check, title + "none offers it", asker, """
            publish 1 1 5; tick 1
            variable 0 2 = 9
            queued 0 1 0 0 ! MISSING
            count 2 = 2; count 5 = 2; count 6 = 1
            """);
        Script.test(check, title + "one that it asks is offered by none", asker, """
            offer 1 3 3 2 0; offer 1 2 3 0 0; publish 1 1 5; tick 1
            variable 0 2 = 9; variable 1 {0..3} = 0
            count 5 = 2; count 6 = 1
            """);
        Script.test(check, title + "a failure by a 0", asker, """
            offer 1 3 2 0 0; publish 1 1 5; tick 1
            variable 0 2 = 9; variable 1 {0..3} = 0
            count 5 = 2; count 6 = 1
            """);
        Script.test(check, title + "a failure by a 0 of one that it asks", asker, """
            offer 1 3 3 1 0; offer 1 1 2 3 0; publish 1 1 0; tick 1
            variable 0 2 = 9
            count 5 = 2; count 6 = 1
            """);
        Script.test(check, title + "and the tick goes on", asker, """
            subscribe 1 1 1; act 1 1 1 0 0; publish 1 1 5 = 2
            tick 1 = 2
            variable 1 0 = 5
            count 5 = 3; count 6 = 1
            """);
        Script.test(check, title + "each time", asker, """
            3 * publish 1 1 5; tick 8
            count 5 = 4; count 6 = 3
            offer 1 3 0 1 0; publish 1 1 5; tick 1
            variable 0 2 = 5
            count 5 = 5; count 6 = 3
            """);
    }

    private static void spin(Check check) {
        Script.test(check, "A SPIN of a node takes one message", KEEPER, """
            publish 0 0 1; publish 0 0 2; publish 0 0 3
            tick 1; variable 0 0 = 1; queued 0 0 1 0 = 3; queued 0 0 2 0 ! MISSING
            tick 1; variable 0 0 = 2; queued 0 0 0 0 = 3; queued 0 0 1 0 ! MISSING
            tick 1; variable 0 0 = 3; queued 0 0 0 0 ! MISSING
            count 5 = 3
            """);
        Script.test(check, "if there is one", KEEPER, """
            tick 8 = 8
            count 5 = 0
            variable 0 0 = 0
            """);
        Script.test(check, "and does its action for that topic, if it has one", """
            join 0; subscribe 0 {0,1} 1; act 0 1 0 0 0; publish 0 0 5; publish 0 1 6
            tick 1; variable 0 0 = 0; count 5 = 0; queued 0 0 0 0 ! MISSING
            tick 1; variable 0 0 = 6; count 5 = 1
            """);
        Script.test(check, "a spin takes one message of all its topics, not one of each", KEEPER, """
            publish 0 {0..5} 1
            tick 1
            count 5 = 1
            leave 0 = 5
            """);
    }

    private static void spinsAround(Check check) {
        Script.test(check, "from 0 at first", KEEPER, """
            publish 0 5 50; publish 0 0 10; tick 1
            variable 0 0 = 10
            """);
        Script.test(check, "from 0 at first: the first whose queue is not empty", KEEPER, """
            publish 0 5 50; publish 0 3 30; tick 1
            variable 0 0 = 30
            """);
        Script.test(check, "behind the one that it took from last: all in turn, and around", KEEPER, """
            publish 0 0 10; publish 0 1 11; publish 0 2 12; publish 0 3 13; publish 0 4 14; publish 0 5 15
            publish 0 0 20; publish 0 5 25
            tick 1; variable 0 0 = 10; tick 1; variable 0 0 = 11; tick 1; variable 0 0 = 12
            tick 1; variable 0 0 = 13; tick 1; variable 0 0 = 14; tick 1; variable 0 0 = 15
            tick 1; variable 0 0 = 20; tick 1; variable 0 0 = 25
            """);
        Script.test(check, "around: from 5 to 0", KEEPER, """
            publish 0 5 50; tick 1; publish 0 5 51; publish 0 0 10
            tick 1; variable 0 0 = 10
            tick 1; variable 0 0 = 51
            """);
        Script.test(check, "around: the one that it took from last comes last", KEEPER, """
            publish 0 3 30; tick 1; publish 0 3 31; publish 0 2 20; publish 0 4 40
            tick 1; variable 0 0 = 40
            tick 1; variable 0 0 = 20
            tick 1; variable 0 0 = 31
            """);
        Script.test(check, "around: the same one again, if it is the only one", KEEPER, """
            publish 0 5 50; publish 0 5 51; publish 0 5 52
            tick 1; variable 0 0 = 50; tick 1; variable 0 0 = 51; tick 1; variable 0 0 = 52
            publish 0 0 1; publish 0 0 2
            tick 1; variable 0 0 = 1; tick 1; variable 0 0 = 2
            """);
        Script.test(check, "a spin that takes nothing leaves the one that it took from last", KEEPER, """
            publish 0 2 20; tick 8; publish 0 1 10; publish 0 3 30; tick 1
            variable 0 0 = 30
            """);
        Script.test(check, "a topic without an action is one that it took from, too", KEEPER, """
            act 0 2 -1 0 0; publish 0 2 20; tick 1; publish 0 1 10; publish 0 3 30; tick 1
            variable 0 0 = 30
            """);
        Script.test(check, "each node has its own turn", KEEPER, """
            join 1; subscribe 1 {0..5} 4; act 1 {0..5} 0 0 0
            unsubscribe 1 0; publish 0 0 1; publish 0 1 11; publish 0 1 12; tick 1
            variable 0 0 = 1; variable 1 0 = 11
            subscribe 1 0 4; publish 0 0 2; tick 1
            variable 0 0 = 11; variable 1 0 = 2
            """);
    }

    private static void tick(Check check) {
        Script.test(check, "THE CLOCK counts ticks from 0", """
            count 0 = 0
            tick 1 = 1
            tick 1 = 2
            count 0 = 2
            """);
        Script.test(check, "tick: Makes n (1 .. 8) ticks; answers the clock", """
            tick 8 = 8
            tick 1 = 9
            tick 2 = 11; tick 3 = 14; tick 4 = 18; tick 5 = 23; tick 6 = 29; tick 7 = 36
            """);
        Script.test(check, "tick: IllegalArgumentException: out of range", """
            tick {0,9,-1,-8,MIN,MAX} ! ARGUMENT
            count 0 = 0
            tick 8 = 8
            tick {0,9} ! ARGUMENT
            count 0 = 8
            """);
        Script.test(check, "tick: a refused one makes no spin and does not play", KEEPER, """
            keep 0 true; publish 0 0 5; play 1
            tick {0,9,-1} ! ARGUMENT
            queued 0 0 0 0 = 5
            count 2 = 1; count 4 = 1; count 5 = 0
            """);
        for (int n = 1; n <= 8; n++) {
            Script.test(check, "tick: each of " + n + " ticks is a spin",
                "join 0; subscribe 0 {0..2} 4; act 0 {0..2} 1 0 0; 4 * publish 0 {0..2} 1",
                "tick " + n + " = " + n, "variable 0 0 = " + n, "count 5 = " + n, "leave 0 = " + (12 - n));
        }
    }

    private static void orderInATick(Check check) {
        Script.test(check, "each node that is there, by rising numbers: all in one tick", """
            join {0..5}; subscribe 0 0 1; subscribe 1 1 1; subscribe 2 2 1; subscribe 3 3 1; subscribe 4 4 1
            subscribe 5 5 1; act 0 0 2 1 2; act 1 1 2 2 2; act 2 2 2 3 2; act 3 3 2 4 2; act 4 4 2 5 2; act 5 5 0 0 0
            publish 0 0 1; tick 1
            variable 5 0 = 32
            count 5 = 6
            """);
        Script.test(check, "by rising numbers, in whatever order they came: one a tick the other way", """
            join 5; join 4; join 3; join 2; join 1; join 0
            subscribe 5 5 1; subscribe 4 4 1; subscribe 3 3 1; subscribe 2 2 1; subscribe 1 1 1; subscribe 0 0 1
            act 5 5 2 4 2; act 4 4 2 3 2; act 3 3 2 2 2; act 2 2 2 1 2; act 1 1 2 0 2; act 0 0 0 0 0
            publish 0 5 1
            tick 1; count 5 = 1; tick 1; count 5 = 2; tick 1; count 5 = 3; tick 1; count 5 = 4; tick 1; count 5 = 5
            variable 0 0 = 0
            tick 1; count 5 = 6
            variable 0 0 = 32
            """);
        Script.test(check, "spins once: what it sends to itself waits for the next tick", """
            join 0; subscribe 0 0 4; act 0 0 2 0 1; publish 0 0 1; tick 1
            count 5 = 1
            tick 8
            count 5 = 9
            """);
        Script.test(check, "the clock is one more; the player publishes; then the nodes spin", KEEPER, """
            keep 1 true; unsubscribe 0 1; publish 0 1 7; subscribe 0 1 1; play 1
            tick 1
            variable 0 0 = 7
            count 5 = 1
            latch 1 true; join 1; subscribe 1 1 1 = 1
            queued 1 1 0 2 = 1
            """);
        Script.test(check, "the player publishes before the nodes spin, behind what is queued", KEEPER, """
            keep 1 true; publish 0 1 7; publish 0 1 8; play 1; tick 1
            variable 0 0 = 7
            queued 0 1 0 0 = 8; queued 0 1 1 0 = 7; queued 0 1 2 0 = 8
            """);
    }
}
