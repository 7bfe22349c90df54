/** The boundary cases of promises 14 (keep), 15 (play) and 16 (empty), a sentence each. */
public final class BagEdgesTest {
    /** The tick, counted from play on, at which a record is played: a row for each speed, by how much later it is. */
    private static final int[][] PLAYED_AT = {
        {1, 1, 2, 3, 4, 5, 6, 7, 8, 9, 10, 11, 12, 13},
        {1, 1, 1, 2, 2, 3, 3, 4, 4, 5, 5, 6, 6, 7},
        {1, 1, 1, 1, 2, 2, 2, 3, 3, 3, 4, 4, 4, 5},
        {1, 1, 1, 1, 1, 2, 2, 2, 2, 3, 3, 3, 3, 4},
    };

    public static void main(String[] args) {
        Check check = new Check();
        keep(check);
        records(check);
        fullBag(check);
        playRefusals(check);
        empty(check);
        due(check);
        dueLate(check);
        beginsAndEnds(check);
        ofThePlayer(check);
        check.end();
    }

    private static void keep(Check check) {
        Script.test(check, "keep: 1 if that changes something, else 0", """
            keep {0..5} false = 0
            keep {0..5} true = 1
            keep {0..5} true = 0
            keep {0..5} false = 1
            keep {0..5} false = 0
            """);
        Script.test(check, "keep: Sets whether a topic is recorded, and no other", """
            keep 3 true = 1
            join 0; publish 0 {0,1,2,4,5} 7
            count 3 = 0
            publish 0 3 7
            count 3 = 1
            keep {0,1,2,4,5} false = 0
            """);
        Script.test(check, "keep: IllegalArgumentException: not 0 .. 5", """
            keep {-1,6,MIN,MAX} {true,false} ! ARGUMENT
            keep {0,5} true = 1
            keep {-1,6} {true,false} ! ARGUMENT
            keep {0,5} true = 0
            keep {1..4} true = 1
            """);
    }

    private static void records(Check check) {
        Script.test(check, "While it RECORDS a topic: not before and not behind that", """
            join 0; publish 0 0 1; keep 0 true
            count 3 = 0
            publish 0 0 2
            count 3 = 1
            keep 0 false; publish 0 0 3
            count 3 = 1
            keep 0 true; publish 0 0 4
            count 3 = 2
            """);
        Script.test(check, "every message published on it: by nodes, by actions, to nobody and to all", """
            join {0,1}; keep 1 true; publish 0 1 5 = 0
            count 3 = 1
            subscribe {0,1} 1 4; publish 1 1 6 = 2
            count 3 = 2
            unsubscribe {0,1} 1; subscribe 0 0 4; act 0 0 2 1 1; publish 0 0 7; tick 1
            count 3 = 3
            act 0 0 4 1 0; publish 0 0 8; tick 1
            count 3 = 4
            """);
        Script.test(check, "a latched message that is given to who is newly subscribed is not published", """
            join 0; latch 0 true; publish 0 0 5; keep 0 true; subscribe 0 0 1 = 1
            count 3 = 0
            """);
        Script.test(check, "is put into the bag with its stamp: that of the tick, for an action", """
            join 0; keep {0,1} true; publish 0 1 1; subscribe 0 0 1; publish 0 0 5; tick 1; act 0 0 2 1 1
            publish 0 0 6; tick 1; keep {0,1} false; unsubscribe 0 0; act 0 0 -1 0 0
            play 1 = 4
            tick 1; count 2 = 7; count 4 = 1
            tick 1; count 2 = 8; count 4 = 0
            """);
    }

    private static void fullBag(Check check) {
        Script.test(check, "THE BAG holds 30 records", """
            join 0; keep {0..5} true
            29 * publish 0 1 1
            count 3 = 29
            publish 0 2 2
            count 3 = 30
            publish 0 {0..5} 3
            count 3 = 30
            """);
        Script.test(check, "if there is room: the first 30 stay, what finds no room is published all the same", """
            join 0; subscribe 0 0 4; keep 0 true
            30 * publish 0 0 1 = 1; publish 0 0 2 = 1
            queued 0 0 3 0 = 2
            count 2 = 31; count 3 = 30
            tick 4; keep 0 false
            play 4 = 30
            tick 1
            queued 0 0 {0..2} 0 = 1; queued 0 0 3 0 ! MISSING
            count 2 = 61; count 3 = 30; count 4 = 0
            """);
        Script.test(check, "there is room again in an emptied bag, for 30", """
            join 0; keep 0 true; 31 * publish 0 0 1
            empty = 30
            count 3 = 0
            30 * publish 0 0 1
            count 3 = 30
            publish 0 0 1
            empty = 30
            """);
        Script.test(check, "the 30 records of a full bag are all played, with their topics and values, in order", """
            join {0,1}; keep {0..5} true; publish 0 {0..4} 1; publish 0 {0..4} 2; publish 0 {0..4} 3
            publish 0 {0..4} 4; publish 0 {0..4} 5; publish 0 5 {21..25}; publish 0 5 26
            count 3 = 30
            join 5; subscribe 5 {0..5} 4; unsubscribe 5 0; play 1 = 30; tick 1
            queued 5 1 0 0 = 3; queued 5 1 1 0 = 4; queued 5 1 2 0 = 5; queued 5 1 3 0 ! MISSING
            queued 5 {2..4} 0 0 = 2; queued 5 {2..4} 1 0 = 3; queued 5 {2..4} 2 0 = 4; queued 5 {2..4} 3 0 = 5
            queued 5 5 0 0 = 22; queued 5 5 1 0 = 23; queued 5 5 2 0 = 24; queued 5 5 3 0 = 25
            """);
    }

    private static void playRefusals(Check check) {
        String one = "join 0; keep 0 true; publish 0 0 7\n";
        Script.test(check, "play: IllegalArgumentException: speed not 1 .. 4", one, """
            play {0,5,-1,MIN,MAX} ! ARGUMENT
            count 4 = 0
            play 1 = 1; tick 1
            play {0,5} ! ARGUMENT
            play 4 = 1
            """);
        Script.test(check, "play: IllegalStateException: it is playing", one, """
            tick 4; publish 0 0 8
            play 1 = 2
            play {1..4} ! STATE
            tick 3
            play {1..4} ! STATE
            count 4 = 1
            tick 1
            count 4 = 0
            play 4 = 2
            play 4 ! STATE
            """);
        Script.test(check, "play: a refused one while it plays leaves the speed and the place", one, """
            tick 4; publish 0 0 8; keep 0 false
            play 2 = 2
            tick 1; count 2 = 3
            play {1,4} ! STATE
            play {0,5} ! ARGUMENT
            tick 1; count 2 = 4; count 4 = 0
            tick 8; count 2 = 4
            """);
        Script.test(check, "play: UnsupportedOperationException: the bag is empty", """
            play {1..4} ! UNSUPPORTED
            count 4 = 0
            join 0; publish 0 0 1; keep 0 true
            play {1..4} ! UNSUPPORTED
            publish 0 0 1
            play 1 = 1; tick 1
            empty = 1
            play {1..4} ! UNSUPPORTED
            count 4 = 0
            """);
        Script.test(check, "play: answers how many records it has", one, """
            play 1 = 1; tick 1; publish 0 0 8
            play 1 = 2; tick 1; 28 * publish 0 0 9
            play 1 = 30; tick 8; publish 0 0 9
            play 1 = 30
            """);
    }

    private static void empty(Check check) {
        Script.test(check, "empty: Empties the bag; answers how many records it had", """
            empty = 0
            join 0; keep 0 true
            publish 0 0 1; empty = 1
            empty = 0
            30 * publish 0 0 1; empty = 30
            31 * publish 0 0 1; empty = 30
            count 3 = 0
            """);
        Script.test(check, "empty: IllegalStateException: it is playing", """
            join 0; keep 0 true; publish 0 0 1; tick 2; publish 0 0 2; keep 0 false
            play 1 = 2
            empty ! STATE
            count 3 = 2; count 4 = 1
            tick 1
            empty ! STATE
            tick 1
            count 2 = 4; count 4 = 0
            empty = 2
            empty = 0
            """);
        Script.test(check, "empty: the topics go on being recorded", """
            join 0; keep 0 true; publish 0 0 1
            empty = 1
            keep 0 true = 0
            publish 0 0 1
            count 3 = 1
            """);
    }

    private static void due(Check check) {
        for (int speed = 1; speed <= 4; speed++) {
            int[] playedAt = PLAYED_AT[speed - 1];
            for (int later = 0; later < playedAt.length; later++) {
                int played = playedAt[later];
                String pause = later == 0 ? "" : later + " * tick 1\n";
                String before = played == 1 ? "" : played - 1 + " * tick 1\ncount 2 = 3; count 4 = 1\n";
                Script.test(check, "due at T + (t - t0) / speed, rounded up: " + later + " / " + speed,
                    "join 0; keep 0 true; tick 3; publish 0 0 1\n", pause, "publish 0 0 2; keep 0 false; tick 5\n",
                    "play " + speed + " = 2; count 2 = 2; count 4 = 1\n", before,
                    "tick 1; count 2 = 4; count 4 = 0; tick 8; count 2 = 4");
            }
        }
    }

    private static void dueLate(Check check) {
        Script.test(check, "rounded up: far away", """
            join 0; keep 0 true; publish 0 0 1; 50 * tick 8; publish 0 0 2; keep 0 false
            play 3 = 2
            16 * tick 8; tick 5
            count 2 = 3; count 4 = 1
            tick 1
            count 2 = 4; count 4 = 0
            """);
        Script.test(check, "at a tick all that are due by then and were not yet, in order", """
            join 0; keep {0,1} true; publish 0 0 1; tick 1; publish 0 1 2; tick 1; publish 0 0 3; tick 1
            publish 0 1 4; tick 1; publish 0 0 5; keep {0,1} false; subscribe 0 {1,0} 4; latch {0,1} true
            play 2 = 5
            tick 1; count 2 = 8; queued 0 0 0 0 = 3; queued 0 1 0 0 = 2
            tick 1; count 2 = 10; count 4 = 0
            queued 0 0 0 0 = 3; queued 0 0 1 0 = 5; queued 0 1 0 0 = 4; queued 0 1 1 0 ! MISSING
            """);
        Script.test(check, "in order: of one topic and one time, as they were published", """
            join 0; keep 0 true; publish 0 0 5; publish 0 0 3; publish 0 0 4; subscribe 0 0 4; play 1; tick 1
            queued 0 0 0 0 = 3; queued 0 0 1 0 = 4; queued 0 0 2 0 ! MISSING
            """);
        Script.test(check, "each of several ticks of one call plays what is due at it", """
            join 0; keep 0 true; publish 0 0 1; tick 5; publish 0 0 2; keep 0 false; latch 0 true
            play 1 = 2
            tick 8 = 13
            count 2 = 4
            subscribe 0 0 1 = 1
            queued 0 0 0 2 = 10
            """);
        Script.test(check, "T is the clock when playing begins, t0 the time of record 0", """
            join 0; keep 0 true; tick 8; publish 0 0 1; tick 2; publish 0 0 2; keep 0 false; tick 8; tick 8
            play 1 = 2
            tick 1; count 2 = 3
            tick 1; count 2 = 4
            """);
        Script.test(check, "t0 is that of the record 0 of now, behind an emptying", """
            join 0; keep 0 true; publish 0 0 1; tick 8; empty = 1; publish 0 0 2; tick 2; publish 0 0 3; keep 0 false
            play 1 = 2
            tick 1; count 2 = 4
            tick 1; count 2 = 5; count 4 = 0
            """);
    }

    private static void beginsAndEnds(Check check) {
        Script.test(check, "PLAYING begins: nothing is published before a tick", """
            join 0; keep 0 true; publish 0 0 1; subscribe 0 0 1; play 1 = 1
            queued 0 0 0 0 ! MISSING
            count 2 = 1; count 4 = 1
            """);
        Script.test(check, "from the record 0 on, each time", """
            join 0; keep 0 true; publish 0 0 5; tick 1; publish 0 0 6; keep 0 false; subscribe 0 0 4; act 0 0 1 0 0
            play 1 = 2; tick 1; variable 0 0 = 5; tick 1; variable 0 0 = 11; count 4 = 0
            play 1 = 2; tick 1; variable 0 0 = 16; tick 1; variable 0 0 = 22; count 4 = 0
            """);
        Script.test(check, "playing ends with the last one that was in the bag when it began", """
            join 0; keep 0 true; publish 0 0 1; tick 2; publish 0 0 2
            play 1 = 2
            publish 0 0 3; tick 1; publish 0 0 4
            count 3 = 4; count 4 = 1
            tick 1
            count 2 = 6; count 4 = 0
            tick 8
            count 2 = 6
            play 4 = 4
            """);
        Script.test(check, "playing ends with the last one: one record is the first and the last", """
            join 0; keep 0 true; publish 0 0 1; play 4 = 1
            count 4 = 1
            tick 1
            count 4 = 0; count 2 = 2
            empty = 1
            """);
        Script.test(check, "playing goes on when a topic is recorded no more and its sender is gone", """
            join {0,1}; keep 0 true; publish 0 0 1; tick 1; publish 0 0 2; play 1 = 2; keep 0 false; leave 0
            subscribe 1 0 4; tick 2
            count 2 = 4; count 4 = 0
            """);
        Script.test(check, "a bag that is full while it plays takes no more", """
            join 0; keep 0 true; 15 * publish 0 0 1; tick 3; 14 * publish 0 0 2; play 1 = 29
            publish 0 0 3; count 3 = 30
            publish 0 0 4; count 3 = 30
            tick 3
            count 2 = 60; count 4 = 0
            play 1 = 30
            """);
    }

    private static void ofThePlayer(Check check) {
        Script.test(check, "What the player publishes is not recorded", """
            join 0; keep 0 true; publish 0 0 1; publish 0 0 2; play 1; tick 1
            count 2 = 4; count 3 = 2
            keep 0 true = 0
            """);
        Script.test(check, "what an action makes of it is, if its topic is recorded", """
            join 0; keep {0,1} true; publish 0 0 1; subscribe 0 0 4; act 0 0 2 1 7; play 1 = 1; tick 1
            count 3 = 2
            play 1 = 2
            """);
        Script.test(check, "published by the player: into all queues of that topic", """
            join {0..5}; keep 2 true; publish 3 2 9; publish 3 2 8; subscribe {0..5} {2,3} 4; play 1; tick 1
            queued {0..5} 2 0 0 = 8
            queued {0..5} 3 0 0 ! MISSING
            """);
        Script.test(check, "published by the player: the sender -1 and the stamp of the tick", """
            join {0,1}; keep 2 true; publish 1 2 9; publish 1 2 8; tick 3; subscribe {0,1} 2 4; play 1; tick 1
            queued {0,1} 2 0 0 = 8
            queued {0,1} 2 0 1 = -1
            queued {0,1} 2 0 2 = 4
            """);
    }
}
