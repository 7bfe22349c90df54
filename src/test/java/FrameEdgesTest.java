/** The boundary cases of promises 17 (mount), 18 (sample), 19 (locate) and 20 (lastY), a sentence each. */
public final class FrameEdgesTest {
    /** The neighbours of what is allowed, halves of an eighth, what is far away and what is no number. */
    private static final String NO_COORDINATES = "{1024.125,-1024.125,1024.0000000000002,-1024.0000000000002,"
        + "1023.9999999999999,-1023.9999999999999,0.0625,-0.0625,0.1875,0.12500000000000003,0.12499999999999999,"
        + "1023.9375,4.9E-324,-4.9E-324,0.1,8192,-8192,268435456,536870912,4294967296,1E19,-1E300,"
        + "1.7976931348623157E308,NaN,Infinity,-Infinity}";
    private static final String[] COORDINATES = {
        "1024", "-1024", "1023.875", "-1023.875", "0.125", "-0.125", "0", "-0.0", "1", "-1", "511.5", "-511.375",
    };

    public static void main(String[] args) {
        Check check = new Check();
        mount(check);
        aboveItself(check);
        mountsAnew(check);
        sample(check);
        samplePlaces(check);
        sampleTimes(check);
        fourSamples(check);
        where(check);
        inBetween(check);
        inBetweenRoundedDown(check);
        turns(check);
        locate(check);
        locateTheRoot(check);
        locateThroughFrames(check);
        nowhere(check);
        noWay(check);
        lastY(check);
        check.end();
    }

    private static void mount(Check check) {
        Script.test(check, "mount: answers the parent before, -1 for none", """
            mount {1..5} 0 = -1
            mount {1..5} 0 = 0
            mount 1 5 = 0
            mount 1 5 = 5
            mount 1 2 = 5
            mount 1 0 = 2
            """);
        Script.test(check, "mount: IllegalArgumentException: out of range: a frame (1 .. 5)", """
            mount {0,-1,6,MIN,MAX} {0..5} ! ARGUMENT
            mount {1,5} 0 = -1
            """);
        Script.test(check, "mount: IllegalArgumentException: out of range: a parent (0 .. 5)", """
            mount {1..5} {-1,6,MIN,MAX} ! ARGUMENT
            mount 1 5 = -1
            mount 5 0 = -1
            """);
        Script.test(check, "frame 0 is the ROOT: it has no parent, and is where it is", """
            sample 0 0 0 0 0 ! MISSING
            mount 0 1 ! ARGUMENT
            locate 0 0 5 6 = 5
            lastY = 6
            """);
        Script.test(check, "another one has a PARENT or none: none at first", """
            sample {1..5} 0 0 0 0 ! MISSING
            locate {1..5} 0 0 0 ! MISSING
            """);
    }

    private static void aboveItself(Check check) {
        Script.test(check, "mount: IllegalStateException: it would be above itself: on itself", """
            mount 1 1 ! STATE; mount 2 2 ! STATE; mount 3 3 ! STATE; mount 4 4 ! STATE; mount 5 5 ! STATE
            mount {1..5} 0 = -1
            mount 5 5 ! STATE
            """);
        Script.test(check, "it would be above itself: through one", """
            mount 1 2 = -1
            mount 2 1 ! STATE
            mount 2 0 = -1
            mount 2 1 ! STATE
            """);
        Script.test(check, "it would be above itself: through all", """
            mount 1 2; mount 2 3; mount 3 4; mount 4 5
            mount 5 {1..5} ! STATE
            mount 4 {1..4} ! STATE
            mount 3 {1..3} ! STATE
            mount 5 0 = -1
            mount 5 {1..5} ! STATE
            """);
        Script.test(check, "it would be above itself: no more when the way is cut", """
            mount 1 2; mount 2 3; mount 3 4; mount 4 5
            mount 3 0 = 4
            mount 5 1 = -1; mount 5 2 = 1; mount 5 3 = 2
            mount 5 4 ! STATE
            """);
        Script.test(check, "it would not be above itself: two beside one another", """
            mount 1 0; mount 2 0
            mount 1 2 = 0
            mount 3 2 = -1
            mount 3 1 = 2
            mount 2 {1,3} ! STATE
            """);
        Script.test(check, "a refused mount leaves the parent and the samples", """
            mount 1 0; mount 2 1; sample 1 5 3 4 0; sample 2 5 10 20 0
            mount 1 {1,2} ! STATE
            mount 1 {-1,6} ! ARGUMENT
            locate 2 5 0 0 = 13
            lastY = 24
            mount 1 0 = 0
            """);
    }

    private static void mountsAnew(Check check) {
        Script.test(check, "mount: Gives a frame a parent, without samples", """
            mount 1 0; sample 1 5 1 1 0 = 1; sample 1 6 1 1 0 = 2
            mount 1 0 = 0
            locate 1 {5,6} 0 0 ! ARITHMETIC
            sample 1 5 1 1 0 = 1
            """);
        Script.test(check, "without samples: the greatest time holds no more", """
            mount 1 0; sample 1 100000 1 1 0 = 1
            sample 1 {0,100000} 1 1 0 ! STATE
            mount 1 2 = 0
            sample 1 0 1 1 0 = 1
            """);
        Script.test(check, "without samples: those of the frames on it and above it stay", """
            mount 1 0; mount 2 1; mount 3 2; sample {1..3} 5 1 1 0 = 1
            mount 2 1 = 1
            sample {1,3} 5 1 1 0 ! STATE
            sample 2 5 7 1 0 = 1
            locate 3 5 0 0 = 9
            """);
    }

    private static void sample(Check check) {
        Script.test(check, "sample: NoSuchElementException: the frame has no parent", """
            sample {-1,0,6,MIN,MAX} 0 0 0 0 ! MISSING
            sample {1..5} 0 0 0 0 ! MISSING
            mount 1 5
            sample 1 0 0 0 0 = 1
            sample {0,2,3,4,5} 0 0 0 0 ! MISSING
            """);
        Script.test(check, "sample: IllegalArgumentException: turn not 0 .. 3", """
            mount 1 0
            sample 1 0 0 0 {-1,4,MIN,MAX} ! ARGUMENT
            locate 1 0 0 0 ! ARITHMETIC
            sample 1 0 0 0 0 = 1
            sample 1 1 0 0 3 = 2
            """);
        Script.test(check, "sample: Answers how many it has", """
            mount {1,2} 0
            sample 1 0 0 0 0 = 1; sample 1 1 0 0 0 = 2; sample 1 2 0 0 0 = 3; sample 1 3 0 0 0 = 4
            sample 1 4 0 0 0 = 4; sample 1 5 0 0 0 = 4
            sample 2 0 0 0 0 = 1
            """);
        Script.test(check, "a refused sample is not added", """
            mount 1 0; sample 1 10 1 2 0; sample 1 20 3 4 0; sample 1 30 5 6 0; sample 1 40 7 8 0
            sample 1 50 0.1 0 0 ! ARGUMENT
            sample 1 50 0 0.1 0 ! ARGUMENT
            sample 1 50 0 0 4 ! ARGUMENT
            sample 1 100001 0 0 0 ! ARGUMENT
            sample 1 {0,39,40} 0 0 0 ! STATE
            locate 1 10 0 0 = 1; locate 1 40 0 0 = 7; lastY = 8
            locate 1 50 0 0 ! ARITHMETIC
            sample 1 41 9 9 0 = 4
            """);
    }

    private static void samplePlaces(Check check) {
        Script.test(check, "sample: IllegalArgumentException: x is no multiple of an eighth from -1024 to 1024",
            "mount 1 0\n", "sample 1 0 " + NO_COORDINATES + " 0 0 ! ARGUMENT\n", "sample 1 0 0 0 0 = 1");
        Script.test(check, "sample: IllegalArgumentException: y is no multiple of an eighth from -1024 to 1024",
            "mount 1 0\n", "sample 1 0 0 " + NO_COORDINATES + " 0 ! ARGUMENT\n", "sample 1 0 0 0 0 = 1");
        for (String place : COORDINATES) {
            Script.test(check, "multiples of an eighth from -1024 to 1024",
                "mount 1 0; sample 1 0 " + place + " 0 0 = 1; sample 1 1 0 " + place + " 0 = 2\n",
                "locate 1 0 0 0 = " + place + "; lastY = 0; locate 1 1 0 0 = 0; lastY = " + place);
        }
    }

    private static void sampleTimes(Check check) {
        Script.test(check, "sample: IllegalArgumentException: time not 0 .. 100000", """
            mount 1 0
            sample 1 {-1,100001,MIN,MAX} 0 0 0 ! ARGUMENT
            sample 1 0 0 0 0 = 1
            sample 1 100000 0 0 0 = 2
            sample 1 {-1,100001} 0 0 0 ! ARGUMENT
            """);
        Script.test(check, "sample: IllegalStateException: the time is not greater than that of its last one", """
            mount 1 0; sample 1 50 0 0 0 = 1
            sample 1 {0,49,50} 0 0 0 ! STATE
            sample 1 51 0 0 0 = 2
            sample 1 {0,50,51} 0 0 0 ! STATE
            sample 1 52 0 0 0 = 3
            """);
        Script.test(check, "its last one: that of another frame does not matter", """
            mount {1,2} 0; sample 1 50 0 0 0 = 1
            sample 2 0 0 0 0 = 1
            """);
        Script.test(check, "The LAST one it is sampled at is the greatest time, when others have gone, too", """
            mount 1 0; sample 1 0 0 0 0; sample 1 10 0 0 0; sample 1 20 0 0 0; sample 1 30 0 0 0; sample 1 40 0 0 0
            sample 1 {0,5,39,40} 0 0 0 ! STATE
            sample 1 41 0 0 0 = 4
            sample 1 41 0 0 0 ! STATE
            """);
        Script.test(check, "the clock does not matter for the times of samples", """
            mount 1 0; tick 8; sample 1 0 3 0 0 = 1; tick 8
            locate 1 0 0 0 = 3
            sample 1 1 0 0 0 = 2
            """);
    }

    private static void fourSamples(Check check) {
        String four = "mount 1 0; sample 1 10 1 -1 0; sample 1 20 2 -2 1; sample 1 30 3 -3 2; sample 1 40 4 -4 3\n";
        Script.test(check, "up to 4 SAMPLES: all four are there", four, """
            locate 1 10 0 0 = 1; lastY = -1; locate 1 20 0 0 = 2; lastY = -2
            locate 1 30 0 0 = 3; lastY = -3; locate 1 40 0 0 = 4; lastY = -4
            locate 1 {9,41} 0 0 ! ARITHMETIC
            """);
        Script.test(check, "if it has 4, the first goes", four, """
            sample 1 50 5 -5 0 = 4
            locate 1 {10,15,19} 0 0 ! ARITHMETIC
            locate 1 20 8 0 = 2; lastY = 6
            locate 1 30 8 0 = -5; lastY = -3
            locate 1 40 8 0 = 4; lastY = -12
            locate 1 50 8 0 = 13; lastY = -5
            locate 1 51 0 0 ! ARITHMETIC
            """);
        Script.test(check, "each time", four, """
            sample 1 50 5 -5 0 = 4; sample 1 60 6 -6 0 = 4; sample 1 70 7 -7 0 = 4; sample 1 80 8 -8 0 = 4
            locate 1 {40,49} 0 0 ! ARITHMETIC
            locate 1 50 0 0 = 5; locate 1 55 0 0 = 5.5; lastY = -5.5; locate 1 80 0 0 = 8; lastY = -8
            """);
    }

    private static void where(Check check) {
        Script.test(check, "before the first or behind the last it is nowhere: without samples always", """
            mount 1 0
            locate 1 {MIN,-1,0,1,100000,MAX} 0 0 ! ARITHMETIC
            """);
        Script.test(check, "before the first or behind the last it is nowhere: with one sample", """
            mount 1 0; sample 1 7 3 4 0
            locate 1 {MIN,-7,0,6,8,100000,MAX} 0 0 ! ARITHMETIC
            locate 1 7 0 0 = 3
            """);
        Script.test(check, "before the first or behind the last it is nowhere: with two", """
            mount 1 0; sample 1 7 3 4 0; sample 1 9 5 4 0
            locate 1 {MIN,0,6,10,MAX} 0 0 ! ARITHMETIC
            locate 1 7 0 0 = 3; locate 1 8 0 0 = 4; locate 1 9 0 0 = 5
            """);
        Script.test(check, "at a sample's time that: the first and the last time that there is", """
            mount 1 0; sample 1 0 3 4 0; sample 1 100000 5 6 0
            locate 1 0 0 0 = 3; lastY = 4
            locate 1 100000 0 0 = 5; lastY = 6
            locate 1 {MIN,-1,100001,MAX} 0 0 ! ARITHMETIC
            """);
    }

    private static void inBetween(Check check) {
        Script.test(check, "between two of them x and y lie in between in the same proportion as the time", """
            mount 1 0; sample 1 10 0 8 0; sample 1 18 8 -8 0; sample 1 19 -100 100 0; sample 1 23 -100 104 0
            locate 1 10 0 0 = 0; lastY = 8; locate 1 11 0 0 = 1; lastY = 6; locate 1 14 0 0 = 4; lastY = 0
            locate 1 17 0 0 = 7; lastY = -6; locate 1 18 0 0 = 8; lastY = -8; locate 1 19 0 0 = -100; lastY = 100
            locate 1 20 0 0 = -100; lastY = 101; locate 1 22 0 0 = -100; lastY = 103
            locate 1 23 0 0 = -100; lastY = 104
            """);
        Script.test(check, "in between: the widest way in the longest time", """
            mount 1 0; sample 1 0 -1024 1024 0; sample 1 100000 1024 -1024 0
            locate 1 1 0 0 = -1024; lastY = 1023.875
            locate 1 6 0 0 = -1024; lastY = 1023.875
            locate 1 7 0 0 = -1023.875; lastY = 1023.75
            locate 1 50000 0 0 = 0; lastY = 0
            locate 1 49999 0 0 = -0.125; lastY = 0
            locate 1 50001 0 0 = 0; lastY = -0.125
            locate 1 99993 0 0 = 1023.75; lastY = -1023.875
            locate 1 99999 0 0 = 1023.875; lastY = -1024
            """);
        Script.test(check, "in between: the widest way in the shortest time that has one", """
            mount 1 0; sample 1 99998 -1024 1024 0; sample 1 100000 1023.875 -1023.875 0
            locate 1 99999 0 0 = -0.125; lastY = 0
            """);
    }

    private static void inBetweenRoundedDown(Check check) {
        Script.test(check, "rounded down to an eighth: above 0", """
            mount 1 0; sample 1 0 1 2 0; sample 1 8 1.125 1.875 0
            locate 1 {1..7} 0 0 = 1
            lastY = 1.875
            locate 1 0 0 0 = 1; lastY = 2; locate 1 8 0 0 = 1.125; lastY = 1.875
            """);
        Script.test(check, "rounded down to an eighth: below 0, not toward it", """
            mount 1 0; sample 1 0 -1 -2 0; sample 1 8 -1.125 -1.875 0
            locate 1 {1..7} 0 0 = -1.125
            lastY = -2
            locate 1 0 0 0 = -1; lastY = -2; locate 1 8 0 0 = -1.125; lastY = -1.875
            """);
        Script.test(check, "rounded down to an eighth: across 0", """
            mount 1 0; sample 1 0 -0.125 0.125 0; sample 1 4 0.125 -0.125 0
            locate 1 0 0 0 = -0.125; lastY = 0.125; locate 1 1 0 0 = -0.125; lastY = 0
            locate 1 2 0 0 = 0; lastY = 0; locate 1 3 0 0 = 0; lastY = -0.125
            """);
        Script.test(check, "rounded down to an eighth: in thirds", """
            mount 1 0; sample 1 0 0 0 0; sample 1 3 1 -1 0
            locate 1 1 0 0 = 0.25; lastY = -0.375; locate 1 2 0 0 = 0.625; lastY = -0.75
            """);
        Script.test(check, "rounded down: the frame's place, before the point is turned or added", """
            mount 1 0; sample 1 0 0 0 2; sample 1 2 0.125 -0.125 2
            locate 1 1 0.125 0.125 = -0.125; lastY = -0.25
            locate 1 1 -0.125 -0.125 = 0.125; lastY = 0
            """);
        Script.test(check, "rounded down: each frame's place by itself", """
            mount 1 2; mount 2 0; sample {1,2} 0 0 0 0; sample {1,2} 2 0.125 -0.125 0
            locate 1 1 0 0 = 0; lastY = -0.25
            locate 1 2 0 0 = 0.25; lastY = -0.25
            """);
        Script.test(check, "rounded down: each frame's place by itself, then turned by the one above", """
            mount 1 2; mount 2 0; sample 1 0 0 0 0; sample 1 2 0.125 -0.125 0; sample 2 1 0 0 2
            locate 1 1 0 0 = 0; lastY = 0.125
            """);
    }

    private static void turns(Check check) {
        Script.test(check, "the turn is that of the earlier one, until the time of the later", """
            mount 1 0; sample 1 10 0 0 1; sample 1 12 0 0 2; sample 1 14 0 0 3; sample 1 16 0 0 0
            locate 1 {10,11} 3 5 = -5; lastY = 3
            locate 1 {12,13} 3 5 = -3; lastY = -5
            locate 1 {14,15} 3 5 = 5; lastY = -3
            locate 1 16 3 5 = 3; lastY = 5
            """);
        Script.test(check, "(x, y) for turn 0, (-y, x) for 1, (-x, -y) for 2, (y, -x) for 3", """
            mount 1 0; sample 1 0 100 200 0; sample 1 1 100 200 1; sample 1 2 100 200 2; sample 1 3 100 200 3
            locate 1 0 3 5 = 103; lastY = 205
            locate 1 1 3 5 = 95; lastY = 203
            locate 1 2 3 5 = 97; lastY = 195
            locate 1 3 3 5 = 105; lastY = 197
            """);
        Script.test(check, "a point at the ends, in a frame at the ends", """
            mount 1 0
            sample 1 0 1024 1024 0; sample 1 1 -1024 -1024 1; sample 1 2 -1024 -1024 2; sample 1 3 1024 1024 3
            locate 1 0 1024 1024 = 2048; lastY = 2048
            locate 1 1 1024 -1024 = 0; lastY = 0
            locate 1 2 1024 1024 = -2048; lastY = -2048
            locate 1 3 -1024 1024 = 2048; lastY = 2048
            """);
    }

    private static void locate(Check check) {
        Script.test(check, "locate: IllegalArgumentException: frame not 0 .. 5", """
            locate {-1,6,MIN,MAX} 0 0 0 ! ARGUMENT
            mount {1..5} 0; sample {1..5} 0 2 0 0
            locate 0 0 0 0 = 0
            locate {1..5} 0 0 0 = 2
            locate {-1,6,MIN,MAX} 0 0 0 ! ARGUMENT
            """);
        Script.test(check, "locate: IllegalArgumentException: x as for sample",
            "mount 1 0; sample 1 0 0 0 0\n", "locate {0,1} 0 " + NO_COORDINATES + " 0 ! ARGUMENT");
        Script.test(check, "locate: IllegalArgumentException: y as for sample",
            "mount 1 0; sample 1 0 0 0 0\n", "locate {0,1} 0 0 " + NO_COORDINATES + " ! ARGUMENT");
        for (String place : COORDINATES) {
            Script.test(check, "locate: x and y as for sample", "mount 1 0; sample 1 0 0 0 0\n",
                "locate {0,1} 0 " + place + " 1 = " + place + "; lastY = 1\n",
                "locate {0,1} 0 1 " + place + " = 1; lastY = " + place);
        }
        Script.test(check, "(A zero is one with either sign.)", """
            mount 1 0; sample 1 0 -0.0 -0.0 0; sample 1 1 0 0 2
            locate 1 {0,1} {0,-0.0} {0,-0.0} = 0
            lastY = 0
            """);
    }

    private static void locateTheRoot(Check check) {
        Script.test(check, "locate: a point of the root is where it is, at any time", """
            locate 0 {MIN,-1,0,100000,100001,MAX} 1024 -1024 = 1024
            lastY = -1024
            locate 0 {MIN,-1,0,100000,100001,MAX} -0.125 0.375 = -0.125
            lastY = 0.375
            """);
    }

    private static void locateThroughFrames(Check check) {
        Script.test(check, "locate: through all frames, whichever number is above", """
            mount 1 2; mount 2 3; mount 3 4; mount 4 5; mount 5 0; sample {1..5} 0 1024 -1024 0
            locate 5 0 1024 -1024 = 2048; lastY = -2048
            locate 4 0 1024 -1024 = 3072; lastY = -3072
            locate 3 0 1024 -1024 = 4096; lastY = -4096
            locate 2 0 1024 -1024 = 5120; lastY = -5120
            locate 1 0 1024 -1024 = 6144; lastY = -6144
            """);
        Script.test(check, "locate: the turns of all frames, each around its own place", """
            mount 5 4; mount 4 3; mount 3 2; mount 2 1; mount 1 0
            sample 1 0 1000 0 1; sample 2 0 100 0 1; sample 3 0 10 0 1; sample 4 0 1 0 1; sample 5 0 0.125 0 1
            locate 1 0 8 0 = 1000; lastY = 8
            locate 2 0 8 0 = 992; lastY = 100
            locate 3 0 8 0 = 990; lastY = 92
            locate 4 0 8 0 = 998; lastY = 99
            locate 5 0 8 0 = 990.125; lastY = 107
            """);
    }

    private static void nowhere(Check check) {
        String chain = "mount 3 2; mount 2 1; mount 1 0\n";
        Script.test(check, "locate: ArithmeticException: one of them (or it) is nowhere then: it", chain, """
            sample {1,2} 0 1 1 0; sample {1,2} 9 1 1 0; sample 3 4 1 1 0
            locate 3 {0,3,5,9} 0 0 ! ARITHMETIC
            locate 3 4 0 0 = 3
            locate 2 {0,3,5,9} 0 0 = 2
            """);
        Script.test(check, "ArithmeticException: one of them is nowhere then: between", chain, """
            sample {1,3} 0 1 1 0; sample {1,3} 9 1 1 0; sample 2 4 1 1 0
            locate {2,3} {0,3,5,9} 0 0 ! ARITHMETIC
            locate 3 4 0 0 = 3
            locate 1 {0,3,5,9} 0 0 = 1
            """);
        Script.test(check, "ArithmeticException: one of them is nowhere then: the uppermost", chain, """
            sample {2,3} 0 1 1 0; sample {2,3} 9 1 1 0; sample 1 4 1 1 0
            locate {1..3} {0,3,5,9} 0 0 ! ARITHMETIC
            locate 3 4 0 0 = 3
            """);
        Script.test(check, "the root is always somewhere, and those below or beside it do not matter", chain, """
            mount {4,5} 1; sample 1 4 1 1 0; sample 5 3 1 1 0
            locate 0 0 0 0 = 0
            locate 1 4 0 0 = 1
            """);
    }

    private static void noWay(Check check) {
        Script.test(check, "locate: NoSuchElementException: the frames above do not lead to the root", """
            locate {1..5} 0 0 0 ! MISSING
            mount 1 2; mount 2 3; mount 3 4; mount 4 5; sample {1..4} 0 1 1 0
            locate {1..5} 0 0 0 ! MISSING
            mount 3 0 = 4
            sample 3 0 1 1 0
            locate 1 0 0 0 = 3
            locate {4,5} 0 0 0 ! MISSING
            """);
        Script.test(check, "the frames above do not lead to the root any more", """
            mount 1 2; mount 2 0; sample {1,2} 0 1 1 0
            locate 1 0 0 0 = 2
            mount 2 3 = 0
            sample 2 0 1 1 0 = 1
            locate {1,2} 0 0 0 ! MISSING
            """);
    }

    private static void lastY(Check check) {
        Script.test(check, "lastY: 0 before", """
            lastY = 0
            mount 1 0; sample 1 0 5 6 0
            lastY = 0
            locate 1 1 3 4 ! ARITHMETIC
            locate 2 0 3 4 ! MISSING
            locate 6 0 3 4 ! ARGUMENT
            lastY = 0
            """);
        Script.test(check, "lastY: The y that goes with the last answer of locate", """
            locate 0 0 3 4 = 3
            2 * lastY = 4
            locate 0 0 3 -5 = 3
            lastY = -5
            """);
        Script.test(check, "lastY: with the last answer, not with a call that threw", """
            mount 1 0; mount 2 1; sample 2 0 5 6 0; sample 1 5 5 6 0
            locate 0 0 3 4 = 3
            locate 0 0 0.1 7 ! ARGUMENT
            locate 0 0 7 1024.125 ! ARGUMENT
            locate 6 0 7 7 ! ARGUMENT
            locate 3 0 7 7 ! MISSING
            locate 2 {0,5} 7 7 ! ARITHMETIC
            lastY = 4
            """);
        Script.test(check, "lastY: it stays through mounts, samples and ticks", """
            mount 1 0; sample 1 0 5 6 0; locate 1 0 3 4 = 8
            sample 1 1 7 7 0; mount 1 0; tick 8
            lastY = 10
            """);
    }
}
