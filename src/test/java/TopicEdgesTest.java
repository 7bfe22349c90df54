/**
 * The boundary cases of promises 4 (latch), 5 (subscribe), 6 (unsubscribe), 7 (publish) and 13 (queued), a sentence
 * each.
 */
public final class TopicEdgesTest {
    public static void main(String[] args) {
        Check check = new Check();
        latch(check);
        latchedTopics(check);
        latchedTopicsWithoutALastOne(check);
        fullQueues(check);
        whoLoses(check);
        otherDepths(check);
        subscribe(check);
        unsubscribe(check);
        publish(check);
        messages(check);
        queued(check);
        check.end();
    }

    private static void latch(Check check) {
        Script.test(check, "TOPICS 0 .. 5, each LATCHED or not (at first)", """
            latch {0..5} false = 0
            join 0; publish 0 {0..5} 1 = 0
            subscribe 0 {0..5} 1 = 0
            """);
        Script.test(check, "latch: 1 if that changes something, else 0", """
            latch {0..5} true = 1
            latch {0..5} true = 0
            latch {0..5} false = 1
            latch {0..5} false = 0
            """);
        Script.test(check, "latch: Makes a topic latched, and no other", """
            latch 3 true = 1
            latch {0,1,2,4,5} false = 0
            latch 3 true = 0
            """);
        Script.test(check, "latch: IllegalArgumentException: not 0 .. 5", """
            latch {-1,6,MIN,MAX} {true,false} ! ARGUMENT
            latch {0,5} true = 1
            latch {-1,6} {true,false} ! ARGUMENT
            latch {0,5} true = 0
            latch {1..4} true = 1
            """);
    }

    private static void latchedTopics(Check check) {
        String title = "Who is newly subscribed to a latched topic that has a last one gets that at once: ";
        Script.test(check, title + "the last of several, with its sender and stamp", """
            join {0..2}; latch 4 true; tick 3
            publish 1 4 -5 = 0; publish 2 4 -6 = 0
            tick 2
            subscribe 0 4 1 = 1
            queued 0 4 0 0 = -6
            queued 0 4 0 1 = 2
            queued 0 4 0 2 = 3
            queued 0 4 1 0 ! MISSING
            """);
        Script.test(check, title + "also if it was published before the topic was latched", """
            join 0; publish 0 1 8; latch 1 true
            subscribe 0 1 4 = 1
            queued 0 1 0 0 = 8
            """);
        Script.test(check, title + "also if its sender is gone", """
            join {0,5}; latch 0 true; publish 5 0 8; leave 5
            subscribe 0 0 2 = 1
            queued 0 0 0 1 = 5
            """);
        Script.test(check, title + "also if others have taken it", """
            join {0,1}; latch 0 true; subscribe 1 0 1; publish 1 0 8; tick 1
            queued 1 0 0 0 ! MISSING
            subscribe 0 0 2 = 1
            """);
        Script.test(check, title + "each time that it is so anew", """
            join 0; latch 0 true; publish 0 0 8
            subscribe 0 0 2 = 1
            unsubscribe 0 0 = 1
            subscribe 0 0 2 = 1
            leave 0 = 1; join 0
            subscribe 0 0 2 = 1
            """);
        Script.test(check, title + "what an action published", """
            join {0,1}; latch 1 true; subscribe 0 0 1; act 0 0 2 1 3; publish 0 0 8; tick 1
            subscribe 1 1 2 = 1
            queued 1 1 0 0 = 24
            queued 1 1 0 1 = 0
            queued 1 1 0 2 = 1
            """);
        Script.test(check, title + "what the player published", """
            join 0; keep 1 true; publish 0 1 8; play 1; tick 1; latch 1 true
            subscribe 0 1 2 = 1
            queued 0 1 0 0 = 8
            queued 0 1 0 1 = -1
            queued 0 1 0 2 = 1
            """);
        Script.test(check, title + "that is no publishing, and loses none", """
            join 0; latch 0 true; keep 0 true; publish 0 0 8
            subscribe 0 0 1 = 1
            count 1 = 0
            count 2 = 1
            count 3 = 1
            """);
    }

    private static void latchedTopicsWithoutALastOne(Check check) {
        Script.test(check, "a latched topic that has a last one: none without it", """
            join 0; latch {0..5} true
            subscribe 0 {0..5} 4 = 0
            """);
        Script.test(check, "a latched topic that has a last one: that of another topic is not its own", """
            join 0; latch {0..5} true; publish 0 2 7
            subscribe 0 {0,1,3,4,5} 4 = 0
            subscribe 0 2 4 = 1
            """);
        Script.test(check, "a latched topic: none from one that is latched no more", """
            join 0; latch 2 true; publish 0 2 7; latch 2 false
            subscribe 0 2 4 = 0
            latch 2 true; unsubscribe 0 2 = 0
            subscribe 0 2 4 = 1
            """);
        Script.test(check, "newly subscribed: who has another depth is not, nor who has the same again", """
            join 0; latch 2 true; publish 0 2 7
            subscribe 0 2 1 = 1; tick 1
            subscribe 0 2 {1..4} = 0
            queued 0 2 0 0 ! MISSING
            """);
        Script.test(check, "newly subscribed: who is subscribed when a topic is latched gets none", """
            join 0; publish 0 2 7; subscribe 0 2 4 = 0; latch 2 true
            queued 0 2 0 0 ! MISSING
            subscribe 0 2 3 = 0
            """);
        Script.test(check, "a refused publish leaves the last one", """
            join 0; latch 2 true; publish 0 2 7; publish 1 2 8 ! MISSING
            subscribe 0 2 4 = 1
            queued 0 2 0 0 = 7
            """);
    }

    private static void fullQueues(Check check) {
        for (int depth = 1; depth <= 4; depth++) {
            StringBuilder rows = new StringBuilder("join {0,1}; subscribe 1 3 " + depth + " = 0\n");
            for (int value = 1; value <= depth; value++) {
                rows.append("publish 0 3 " + value + " = 1\n");
            }
            rows.append("count 1 = 0; queued 1 3 0 0 = 1; queued 1 3 " + (depth - 1) + " 0 = " + depth + "\n");
            rows.append("queued 1 3 " + depth + " 0 ! MISSING\n");
            rows.append("publish 0 3 9 = 1; count 1 = 1\n");
            rows.append("queued 1 3 0 0 = " + (depth == 1 ? 9 : 2) + "; queued 1 3 " + (depth - 1) + " 0 = 9\n");
            rows.append("queued 1 3 " + depth + " 0 ! MISSING\n");
            rows.append("10 * publish 0 3 8 = 1; count 1 = 11; unsubscribe 1 3 = " + depth);
            Script.test(check, "a queue of the depth " + depth + ": for one more the oldest goes, and is LOST",
                rows.toString());
        }
        Script.test(check, "what is taken makes room again", """
            join 0; subscribe 0 0 2; publish 0 0 1; publish 0 0 2; tick 1; publish 0 0 3
            count 1 = 0
            queued 0 0 0 0 = 2; queued 0 0 1 0 = 3; queued 0 0 2 0 ! MISSING
            publish 0 0 4
            count 1 = 1
            queued 0 0 0 0 = 3; queued 0 0 1 0 = 4
            """);
        Script.test(check, "the oldest goes whole: value, sender and stamp", """
            join {0,1}; subscribe 0 {0,1} 3; publish 0 0 1; publish 1 1 2; tick 1
            publish 1 1 3; publish 0 1 4; publish 1 1 5
            queued 0 1 0 0 = 3; queued 0 1 0 1 = 1; queued 0 1 0 2 = 1
            queued 0 1 1 0 = 4; queued 0 1 1 1 = 0; queued 0 1 1 2 = 1
            queued 0 1 2 0 = 5; queued 0 1 2 1 = 1; queued 0 1 2 2 = 1
            """);
    }

    private static void whoLoses(Check check) {
        Script.test(check, "each queue loses by itself", """
            join {0..3}; subscribe 0 0 1; subscribe 1 0 2; subscribe 2 0 3; subscribe 3 0 4
            publish 0 0 1 = 4; count 1 = 0
            publish 0 0 2 = 4; count 1 = 1
            publish 0 0 3 = 4; count 1 = 3
            publish 0 0 4 = 4; count 1 = 6
            publish 0 0 5 = 4; count 1 = 10
            queued 0 0 0 0 = 5; queued 1 0 0 0 = 4; queued 2 0 0 0 = 3; queued 3 0 0 0 = 2
            """);
        Script.test(check, "the queues of one node lose by themselves", """
            join 0; subscribe 0 0 1; subscribe 0 1 1
            publish 0 0 1; publish 0 1 2; count 1 = 0
            publish 0 0 3; count 1 = 1
            queued 0 0 0 0 = 3; queued 0 1 0 0 = 2
            """);
        Script.test(check, "lost by messages of actions: FORWARD and SHOW", """
            join {0..2}; subscribe 0 1 1; subscribe {1,2} 0 1; act {1,2} 0 2 1 1; publish 0 0 9 = 2; tick 1
            count 1 = 1
            queued 0 1 0 1 = 2
            act {1,2} 0 4 1 0; publish 0 0 9 = 2; tick 1
            count 1 = 2
            queued 0 1 0 1 = 2
            """);
        Script.test(check, "lost by a message of the player", """
            join 0; keep 0 true; publish 0 0 1; publish 0 0 2; publish 0 0 3; subscribe 0 0 1; play 1; tick 1
            count 1 = 2
            queued 0 0 0 0 ! MISSING
            """);
        Script.test(check, "a node that forwards to itself has taken before it gets", """
            join 0; subscribe 0 0 1; act 0 0 2 0 2; publish 0 0 1; tick 1
            count 1 = 0
            queued 0 0 0 0 = 2
            tick 1
            count 1 = 0
            queued 0 0 0 0 = 4
            """);
    }

    private static void otherDepths(Check check) {
        String full = "join 0; subscribe 0 1 4; publish 0 1 1; publish 0 1 2; publish 0 1 3; publish 0 1 4\n";
        String title = "gives it another depth (the oldest messages beyond it are lost): ";
        Script.test(check, title + "4 of 4", full, """
            subscribe 0 1 4 = 4; count 1 = 0; queued 0 1 0 0 = 1
            """);
        Script.test(check, title + "3 of 4", full, """
            subscribe 0 1 3 = 3; count 1 = 1
            queued 0 1 0 0 = 2; queued 0 1 1 0 = 3; queued 0 1 2 0 = 4; queued 0 1 3 0 ! MISSING
            """);
        Script.test(check, title + "2 of 4", full, """
            subscribe 0 1 2 = 2; count 1 = 2; queued 0 1 0 0 = 3; queued 0 1 1 0 = 4; queued 0 1 2 0 ! MISSING
            """);
        Script.test(check, title + "1 of 4", full, """
            subscribe 0 1 1 = 1; count 1 = 3; queued 0 1 0 0 = 4; queued 0 1 1 0 ! MISSING
            """);
        Script.test(check, title + "as many as there are stay", full, """
            tick 2; subscribe 0 1 2 = 2; count 1 = 0; queued 0 1 0 0 = 3; queued 0 1 1 0 = 4
            """);
        Script.test(check, title + "fewer than it stay", full, """
            tick 3; subscribe 0 1 2 = 1; count 1 = 0; queued 0 1 0 0 = 4
            """);
        Script.test(check, title + "none are there", full, """
            tick 4; subscribe 0 1 1 = 0; count 1 = 0
            """);
        Script.test(check, title + "the new depth holds from then on", full, """
            subscribe 0 1 1 = 1; publish 0 1 5; count 1 = 4; queued 0 1 0 0 = 5
            subscribe 0 1 3 = 1; publish 0 1 6; publish 0 1 7; count 1 = 4
            queued 0 1 0 0 = 5; queued 0 1 1 0 = 6; queued 0 1 2 0 = 7
            publish 0 1 8; count 1 = 5; queued 0 1 0 0 = 6; queued 0 1 2 0 = 8; queued 0 1 3 0 ! MISSING
            """);
        Script.test(check, title + "the queues of others and of other topics stay", full, """
            join 1; subscribe 1 1 4; subscribe 0 2 4; 4 * publish 1 2 7; 4 * publish 1 1 8; count 1 = 4
            subscribe 0 1 1 = 1; count 1 = 7
            unsubscribe 1 1 = 4; unsubscribe 0 2 = 4; unsubscribe 0 1 = 1
            """);
    }

    private static void subscribe(Check check) {
        Script.test(check, "subscribe: NoSuchElementException: no such node", """
            subscribe {-1,6,MIN,MAX} 0 1 ! MISSING
            subscribe {0..5} 0 1 ! MISSING
            join {0,5}
            subscribe {0,5} 0 1 = 0
            subscribe {-1,1,4,6} 0 1 ! MISSING
            leave 5
            subscribe 5 0 1 ! MISSING
            """);
        Script.test(check, "subscribe: IllegalArgumentException: topic not 0 .. 5", """
            join 0
            subscribe 0 {-1,6,MIN,MAX} 1 ! ARGUMENT
            subscribe 0 {0..5} 1 = 0
            """);
        Script.test(check, "subscribe: IllegalArgumentException: depth not 1 .. 4", """
            join 0
            subscribe 0 0 {0,5,-1,MIN,MAX} ! ARGUMENT
            publish 0 0 1 = 0
            subscribe 0 0 {1,4} = 0
            """);
        Script.test(check, "subscribe: a refused depth leaves the queue and its depth", """
            join 0; subscribe 0 0 2; publish 0 0 1; publish 0 0 2
            subscribe 0 0 {0,5,-1} ! ARGUMENT
            count 1 = 0
            queued 0 0 0 0 = 1; queued 0 0 1 0 = 2
            publish 0 0 3 = 1
            count 1 = 1
            queued 0 0 0 0 = 2; queued 0 0 1 0 = 3; queued 0 0 2 0 ! MISSING
            """);
        Script.test(check, "subscribe: to all topics by all nodes", """
            join {0..5}; subscribe {0..5} {0..5} 4 = 0
            publish 3 {0..5} 1 = 6
            """);
    }

    private static void unsubscribe(Check check) {
        Script.test(check, "unsubscribe: answers how many messages were in the queue", """
            join 0; subscribe 0 0 4
            unsubscribe 0 0 = 0; subscribe 0 0 4; publish 0 0 1
            unsubscribe 0 0 = 1; subscribe 0 0 4; 4 * publish 0 0 1
            unsubscribe 0 0 = 4; subscribe 0 0 4; 5 * publish 0 0 1
            unsubscribe 0 0 = 4; subscribe 0 0 1; 5 * publish 0 0 1
            unsubscribe 0 0 = 1
            """);
        Script.test(check, "unsubscribe: It is subscribed no more", """
            join {0,1}; subscribe {0,1} 5 4; publish 0 5 1 = 2; unsubscribe 0 5 = 1
            queued 0 5 0 0 ! MISSING
            publish 0 5 2 = 1
            queued 1 5 {0,1} 1 = 0
            subscribe 0 5 4 = 0
            """);
        Script.test(check, "unsubscribe: what was in the queue is not taken", """
            join 0; subscribe 0 0 4; act 0 0 0 0 0; publish 0 0 7; unsubscribe 0 0 = 1; tick 2
            variable 0 0 = 0
            count 5 = 0
            count 1 = 0
            """);
        Script.test(check, "unsubscribe: the action for the topic stays, and is done when it is subscribed again", """
            join 0; subscribe 0 0 4; act 0 0 0 0 0; unsubscribe 0 0 = 0; subscribe 0 0 4; publish 0 0 7; tick 1
            variable 0 0 = 7
            act 0 0 0 0 0 = 0
            """);
        Script.test(check, "unsubscribe: NoSuchElementException: no such node", """
            unsubscribe {-1,6,MIN,MAX} 0 ! MISSING
            unsubscribe {0..5} 0 ! MISSING
            join {0,5}; subscribe {0,5} 0 1
            unsubscribe {-1,1,4,6} 0 ! MISSING
            unsubscribe {0,5} 0 = 0
            """);
        Script.test(check, "unsubscribe: IllegalArgumentException: topic not 0 .. 5", """
            join 0; subscribe 0 {0..5} 1
            unsubscribe 0 {-1,6,MIN,MAX} ! ARGUMENT
            unsubscribe 0 {0..5} = 0
            unsubscribe 0 {-1,6} ! ARGUMENT
            """);
        Script.test(check, "unsubscribe: NoSuchElementException, too, last of all: it was not subscribed", """
            join {0,1}
            unsubscribe 0 {0..5} ! MISSING
            subscribe 0 2 1; subscribe 1 3 1
            unsubscribe 0 {0,1,3,4,5} ! MISSING
            unsubscribe 0 2 = 0
            unsubscribe 0 2 ! MISSING
            unsubscribe 1 3 = 0
            """);
    }

    private static void publish(Check check) {
        Script.test(check, "publish: how many queues it went into: from none to all", """
            join {0..5}
            publish 2 1 9 = 0; subscribe 5 1 1
            publish 2 1 9 = 1; subscribe 2 1 1
            publish 2 1 9 = 2; subscribe {0,1,3} 1 1
            publish 2 1 9 = 5; subscribe 4 1 1
            publish 2 1 9 = 6
            publish 2 {0,2,3,4,5} 9 = 0
            """);
        Script.test(check, "PUBLISHING a message puts it behind the queues of all, its sender too", """
            join {0..5}; subscribe {0..5} 1 2; publish {0..5} 1 9 = 6
            queued {0..5} 1 0 1 = 4
            queued {0..5} 1 1 1 = 5
            """);
        Script.test(check, "publish: NoSuchElementException: no such node", """
            publish {-1,6,MIN,MAX} 0 1 ! MISSING
            publish {0..5} 0 1 ! MISSING
            join {0,5}
            publish {0,5} 0 1 = 0
            publish {-1,1,4,6} 0 1 ! MISSING
            count 2 = 2
            """);
        Script.test(check, "publish: IllegalArgumentException: topic not 0 .. 5", """
            join 0
            publish 0 {-1,6,MIN,MAX} 1 ! ARGUMENT
            count 2 = 0
            publish 0 {0,5} 1 = 0
            count 2 = 2
            """);
        Script.test(check, "publish: a value may be any", """
            join 0; subscribe 0 0 3; publish 0 0 {MIN,0,MAX} = 1
            queued 0 0 0 0 = MIN; queued 0 0 1 0 = 0; queued 0 0 2 0 = MAX
            """);
        Script.test(check, "publish: a refused one goes into no queue and no bag", """
            join {0,1}; subscribe 0 {0..5} 1; keep {0..5} true
            publish 2 0 1 ! MISSING
            publish 1 {-1,6} 1 ! ARGUMENT
            leave 0 = 0
            count 2 = 0
            count 3 = 0
            """);
    }

    private static void messages(Check check) {
        Script.test(check, "a node as its SENDER", """
            join {0..5}; subscribe 0 0 1; subscribe 0 1 1; subscribe 0 2 1; subscribe 0 3 1; subscribe 0 {4,5} 1
            publish 0 0 9; publish 1 1 9; publish 2 2 9; publish 3 3 9; publish 4 4 9; publish 5 5 9
            queued 0 0 0 1 = 0; queued 0 1 0 1 = 1; queued 0 2 0 1 = 2
            queued 0 3 0 1 = 3; queued 0 4 0 1 = 4; queued 0 5 0 1 = 5
            """);
        Script.test(check, "(or -1 for the player)", """
            join {0,1}; keep 0 true; publish 0 0 4; publish 1 0 5; subscribe {0,1} 0 4; play 1; tick 1
            queued {0,1} 0 0 0 = 5
            queued {0,1} 0 0 1 = -1
            """);
        Script.test(check, "as STAMP the clock when it is sent", """
            join {0,1}; subscribe 0 0 4
            publish 1 0 7
            queued 0 0 0 2 = 0
            tick 1; 3 * publish 1 0 8; tick 1; publish 1 0 9
            queued 0 0 0 2 = 1
            queued 0 0 1 2 = 1
            queued 0 0 2 2 = 2
            """);
        Script.test(check, "as STAMP the clock when it is sent: in a tick that is one more already", """
            join {0,1}; subscribe 0 1 4; subscribe 1 0 4; act 1 0 2 1 1; publish 0 0 5; publish 0 0 6
            tick 1
            queued 0 1 0 2 = 1
            act 1 0 4 1 0; tick 1
            queued 0 1 0 2 = 2
            """);
    }

    private static void queued(Check check) {
        String three = "join {2,4}; subscribe 4 1 4; publish 2 1 -7; publish 4 1 11; publish 2 1 12\n";
        Script.test(check, "queued: the place k (from 0, the oldest)", three, """
            queued 4 1 0 0 = -7; queued 4 1 1 0 = 11; queued 4 1 2 0 = 12
            """);
        Script.test(check, "queued: NoSuchElementException: no such message", three, """
            queued 4 1 {-1,3,4,MIN,MAX} 0 ! MISSING
            publish 2 1 13
            queued 4 1 3 0 = 13
            queued 4 1 {-1,4} 0 ! MISSING
            tick 4
            queued 4 1 {-1,0,1} 0 ! MISSING
            """);
        Script.test(check, "queued: NoSuchElementException: no such queue", three, """
            queued 4 {0,2,3,4,5} 0 0 ! MISSING
            queued 2 1 0 0 ! MISSING
            queued 4 {-1,6,MIN,MAX} 0 0 ! MISSING
            unsubscribe 4 1
            queued 4 1 0 0 ! MISSING
            """);
        Script.test(check, "queued: NoSuchElementException: no such node", three, """
            queued {-1,0,1,3,5,6,MIN,MAX} 1 0 0 ! MISSING
            leave 4 = 3
            queued 4 1 0 0 ! MISSING
            """);
        Script.test(check, "queued: value (0), sender (1), stamp (2). IllegalArgumentException: another", three, """
            queued 4 1 1 0 = 11; queued 4 1 1 1 = 4; queued 4 1 1 2 = 0
            queued 4 1 1 {-1,3,MIN,MAX} ! ARGUMENT
            """);
        Script.test(check, "queued: it is only looked at", three, """
            3 * queued 4 1 0 0 = -7
            unsubscribe 4 1 = 3
            """);
    }
}
