/** The boundary cases of promises 9 (offer) and 10 (call), a sentence each. */
public final class ServiceEdgesTest {
    public static void main(String[] args) {
        Check check = new Check();
        offer(check);
        offerRefusals(check);
        refusedOffersChangeNothing(check);
        linear(check);
        sum(check);
        quotient(check);
        relay(check);
        call(check);
        failures(check);
        failuresChangeNothing(check);
        check.end();
    }

    /** Node 0 comes and keeps the value in its variable. */
    private static String nodeWith(int variable, String value) {
        return "join 0; subscribe 0 0 1; act 0 0 0 " + variable + " 0; publish 0 0 " + value + "; tick 1\n";
    }

    private static void offer(Check check) {
        Script.test(check, "SERVICES 0 .. 3 are offered by a node or none: 1 if none did, else 0", """
            join {0,5}
            offer 0 {0..3} 0 1 0 = 1
            offer 0 {0..3} 0 1 0 = 0
            offer 5 {0..3} 0 1 0 = 0
            """);
        Script.test(check, "in place of who did: the new one alone answers", nodeWith(2, "40"), """
            join 1
            offer 0 1 1 2 0 = 1
            offer 1 1 1 2 0 = 0
            call 1 5 = 5
            variable 0 2 = 40
            variable 1 2 = 5
            """);
        Script.test(check, "in place of who did: it goes with the new one, not with the old", """
            join {0,1}; offer 0 2 0 3 0; offer 1 2 0 4 0; leave 0
            call 2 5 = 20
            leave 1
            call 2 5 ! MISSING
            """);
        Script.test(check, "1 if none did: who did and left does no more", """
            join {0,1}; offer 0 2 0 3 0 = 1; leave 0
            offer 1 2 0 4 0 = 1
            """);
        Script.test(check, "a node may offer all, with other kinds", """
            join 4; offer 4 0 0 2 1 = 1; offer 4 1 1 0 0 = 1; offer 4 2 2 0 0 = 1; offer 4 3 3 1 1 = 1
            call 0 5 = 11; call 1 5 = 5; call 2 5 = 1; call 3 5 = 11
            """);
    }

    private static void offerRefusals(Check check) {
        Script.test(check, "offer: NoSuchElementException: no such node", """
            offer {-1,6,MIN,MAX} 0 0 0 0 ! MISSING
            offer {0..5} 0 0 0 0 ! MISSING
            join {0,5}
            offer 0 0 0 0 0 = 1
            offer 5 1 0 0 0 = 1
            offer {-1,1,4,6} 2 0 0 0 ! MISSING
            """);
        Script.test(check, "offer: IllegalArgumentException: service not 0 .. 3", """
            join 0
            offer 0 {-1,4,MIN,MAX} {0..3} 0 0 ! ARGUMENT
            offer 0 {0,3} 0 0 0 = 1
            """);
        Script.test(check, "offer: IllegalArgumentException: kind not 0 .. 3", """
            join 0
            offer 0 3 {-1,4,MIN,MAX} 0 0 ! ARGUMENT
            offer 0 3 0 0 0 = 1
            offer 0 3 {0..3} 0 0 = 0
            """);
        Script.test(check, "offer: IllegalArgumentException: c not -100 .. 100 (0)", """
            join 0
            offer 0 {0..3} 0 {-101,101,MIN,MAX} 0 ! ARGUMENT
            offer 0 {0..3} 0 -100 0 = 1
            offer 0 {0..3} 0 {-100,100} 0 = 0
            """);
        Script.test(check, "offer: IllegalArgumentException: c not 0 .. 3 (1, 2)", """
            join 0
            offer 0 {0..3} {1,2} {-1,4,MIN,MAX} 0 ! ARGUMENT
            offer 0 {0..3} 1 0 0 = 1
            offer 0 {0..3} {1,2} {0,3} 0 = 0
            """);
        Script.test(check, "offer: IllegalArgumentException: c not 0 .. 3 and below the service (3)", """
            join 0
            offer 0 0 3 {-1..4} 0 ! ARGUMENT
            offer 0 1 3 {-1,1,2,3,4,MIN,MAX} 0 ! ARGUMENT
            offer 0 2 3 {-1,2,3,4,MIN,MAX} 0 ! ARGUMENT
            offer 0 3 3 {-1,3,4,MIN,MAX} 0 ! ARGUMENT
            offer 0 {1..3} 3 0 0 = 1
            offer 0 2 3 {0,1} 0 = 0
            offer 0 3 3 {0..2} 0 = 0
            call {0..3} 0 ! MISSING
            """);
        Script.test(check, "offer: IllegalArgumentException: d not -1000 .. 1000", """
            join 0
            offer 0 3 {0..3} 0 {-1001,1001,MIN,MAX} ! ARGUMENT
            call 3 0 ! MISSING
            offer 0 3 0 0 -1000 = 1
            offer 0 3 {0..3} 0 {-1000,1000} = 0
            """);
    }

    private static void refusedOffersChangeNothing(Check check) {
        Script.test(check, "a refused offer leaves who offers the service, and how", """
            join {0,1}; offer 0 2 0 3 7
            offer 1 2 {-1,4} 0 0 ! ARGUMENT
            offer 1 2 0 101 0 ! ARGUMENT
            offer 1 2 {1,2} 4 0 ! ARGUMENT
            offer 1 2 3 2 0 ! ARGUMENT
            offer 1 2 {0..3} 0 1001 ! ARGUMENT
            offer 2 2 0 1 0 ! MISSING
            call 2 5 = 22
            leave 1
            call 2 5 = 22
            """);
    }

    private static void linear(Check check) {
        Script.test(check, "0: the answer is c times the question plus d: the least and the greatest", """
            join 0
            offer 0 0 0 -100 -1000; call 0 7 = -1700; call 0 -7 = -300
            offer 0 0 0 100 1000; call 0 7 = 1700; call 0 -7 = 300
            offer 0 0 0 0 1000; call 0 {MIN,0,MAX} = 1000
            offer 0 0 0 1 0; call 0 MIN = MIN; call 0 0 = 0; call 0 MAX = MAX
            """);
        Script.test(check, "0: it changes no variable", """
            join 0; offer 0 0 0 1 5; call 0 7 = 12
            variable 0 {0..3} = 0
            """);
    }

    private static void sum(Check check) {
        for (int variable = 0; variable <= 3; variable += 3) {
            Script.test(check, "1: the node's variable " + variable + " plus the question", nodeWith(variable, "40"),
                "offer 0 1 1 " + variable + " 0; call 1 2 = 42; variable 0 " + variable + " = 42",
                "call 1 -50 = -8; variable 0 " + variable + " = -8; call 1 0 = -8; variable 0 {1,2} = 0");
        }
        Script.test(check, "1: and that variable becomes the answer; d is not added", """
            join 0; offer 0 1 1 3 1000
            call 1 2 = 2
            call 1 2 = 4
            variable 0 3 = 4
            """);
        Script.test(check, "1: the variable is that of who offers it, from when it came", nodeWith(0, "40"), """
            offer 0 1 1 0 0; leave 0; join 0; offer 0 1 1 0 0
            call 1 2 = 2
            """);
    }

    private static void quotient(Check check) {
        String title = "2: the question divided by the node's variable c, rounded toward 0: by ";
        Script.test(check, title + "2", nodeWith(0, "2"), """
            offer 0 1 2 0 0
            call 1 7 = 3; call 1 -7 = -3; call 1 8 = 4; call 1 -8 = -4
            call 1 1 = 0; call 1 -1 = 0; call 1 0 = 0; call 1 MAX = 1073741823; call 1 MIN = -1073741824
            """);
        Script.test(check, title + "-2", nodeWith(3, "-2"), """
            offer 0 1 2 3 0
            call 1 7 = -3; call 1 -7 = 3; call 1 8 = -4; call 1 -8 = 4; call 1 1 = 0; call 1 -1 = 0
            """);
        Script.test(check, title + "1 and -1", nodeWith(0, "1"), """
            offer 0 1 2 0 0; call 1 MAX = MAX; call 1 MIN = MIN
            publish 0 0 -1; tick 1; call 1 MAX = -2147483647; call 1 5 = -5
            """);
        Script.test(check, title + "the least and the greatest", nodeWith(0, "MIN"), """
            offer 0 1 2 0 0; call 1 MIN = 1; call 1 MAX = 0; call 1 -5 = 0
            publish 0 0 MAX; tick 1; call 1 MAX = 1; call 1 MIN = -1; call 1 5 = 0
            """);
        Script.test(check, "2: d is not added, and the variable stays", nodeWith(1, "5"), """
            offer 0 1 2 1 1000
            2 * call 1 10 = 2
            variable 0 1 = 5
            """);
        Script.test(check, "2: a failure if that is 0", """
            join 0; offer 0 1 2 0 0
            call 1 {MIN,-1,0,1,MAX} ! ARITHMETIC
            """);
    }

    private static void relay(Check check) {
        Script.test(check, "3: the answer of the service c (below its own number) plus d: the longest chain", """
            join {0..3}; offer 0 0 0 2 1; offer 1 1 3 0 10; offer 2 2 3 1 100; offer 3 3 3 2 1000
            call 0 7 = 15; call 1 7 = 25; call 2 7 = 125; call 3 7 = 1125
            """);
        Script.test(check, "3: from the last to the first", """
            join 0; offer 0 0 0 1 0; offer 0 3 3 0 -1000
            call 3 7 = -993
            """);
        Script.test(check, "3: the question goes on as it is, the variable becomes the answer of its own service", """
            join {0,1}; offer 0 0 1 2 0; offer 1 2 3 0 -50
            call 2 7 = -43
            variable 0 2 = 7
            variable 1 2 = 0
            call 2 1 = -42
            variable 0 2 = 8
            """);
        Script.test(check, "3: it asks who offers the service now", """
            join {0,1}; offer 0 0 0 1 0; offer 0 1 3 0 5
            call 1 7 = 12
            offer 1 0 0 2 0
            call 1 7 = 19
            leave 1
            call 1 7 ! MISSING
            offer 0 0 0 3 0
            call 1 7 = 26
            """);
    }

    private static void call(Check check) {
        Script.test(check, "call: IllegalArgumentException: service not 0 .. 3", """
            call {-1,4,MIN,MAX} 0 ! ARGUMENT
            join 0; offer 0 {0..3} 0 1 0
            call {0..3} 6 = 6
            call {-1,4,MIN,MAX} 0 ! ARGUMENT
            """);
        Script.test(check, "call: NoSuchElementException: none offers it", """
            call {0..3} 0 ! MISSING
            join 0; offer 0 2 0 1 0
            call {0,1,3} 6 ! MISSING
            call 2 6 = 6
            """);
        Script.test(check, "call: NoSuchElementException: or one that it asks", """
            join 0; offer 0 1 3 0 0; offer 0 2 3 1 0; offer 0 3 3 2 0
            call {0..3} 6 ! MISSING
            offer 0 0 0 1 0
            call {0..3} 6 = 6
            """);
        Script.test(check, "call: ArithmeticException: a failure by a 0", nodeWith(0, "3"), """
            offer 0 0 2 0 0; offer 0 1 3 0 1; offer 0 2 3 1 1; offer 0 3 3 2 1
            call 0 6 = 2; call 1 6 = 3; call 2 6 = 4; call 3 6 = 5
            publish 0 0 0; tick 1
            call {0..3} 6 ! ARITHMETIC
            publish 0 0 -3; tick 1
            call 0 6 = -2; call 3 6 = 1
            """);
        Script.test(check, "call: it is no action, publishes nothing and takes no time", """
            join 0; offer 0 0 0 1 0
            call 0 6 = 6
            count {0..6} = 0
            """);
    }

    private static void failures(Check check) {
        Script.test(check, "a failure if that fails, or none offers it: which of both the last one asked tells", """
            join {0,1}; offer 0 3 3 2 0; offer 0 2 3 1 0; offer 1 1 2 0 0
            call 3 5 ! ARITHMETIC
            leave 1
            call 3 5 ! MISSING
            leave 0
            call 3 5 ! MISSING
            """);
        Script.test(check, "a service between that none offers", """
            join {0,1}; offer 0 0 2 0 0; offer 1 1 3 0 0; offer 0 2 3 1 0
            call 2 5 ! ARITHMETIC
            leave 1
            call 2 5 ! MISSING
            call 0 5 ! ARITHMETIC
            """);
    }

    private static void failuresChangeNothing(Check check) {
        Script.test(check, "a call that throws changes nothing", nodeWith(1, "7"), """
            offer 0 0 2 0 0; offer 0 1 3 0 5; offer 0 3 3 2 5; publish 0 0 9
            call 0 5 ! ARITHMETIC
            call 1 5 ! ARITHMETIC
            call {2,3} 5 ! MISSING
            call 4 5 ! ARGUMENT
            variable 0 0 = 0; variable 0 1 = 7; variable 0 {2,3} = 0
            queued 0 0 0 0 = 9
            count 0 = 1; count 1 = 0; count 2 = 2; count 5 = 1; count 6 = 0
            offer 0 0 0 1 0 = 0; offer 0 1 0 1 0 = 0; offer 0 2 0 1 0 = 1; offer 0 3 0 1 0 = 0
            """);
    }
}
