/** "What is thrown is told in the order of testing": calls that are wrong in more than one way, for each promise. */
public final class OrderOfTestingTest {
    public static void main(String[] args) {
        Check check = new Check();
        ofNodesAndTopics(check);
        ofActionsAndServices(check);
        ofTheBag(check);
        ofFrames(check);
        check.end();
    }

    private static void ofNodesAndTopics(Check check) {
        Script.test(check, "subscribe: the node, then topic and depth", """
            join 0
            subscribe {-1,1,6} {-1,0,6} {0,1,5} ! MISSING
            subscribe 0 {-1,6} {0,1,5} ! ARGUMENT
            subscribe 0 {0,5} {0,5} ! ARGUMENT
            """);
        Script.test(check, "unsubscribe: the node, the topic, and last of all whether it is subscribed", """
            join 0
            unsubscribe {-1,1,6} {-1,0,6} ! MISSING
            unsubscribe 0 {-1,6} ! ARGUMENT
            unsubscribe 0 {0,5} ! MISSING
            """);
        Script.test(check, "publish: the node, then the topic", """
            join 0
            publish {-1,1,6} {-1,0,6} 1 ! MISSING
            publish 0 {-1,6} 1 ! ARGUMENT
            """);
        Script.test(check, "variable: the node, then the variable", """
            join 0
            variable {-1,1,6} {-1,0,4} ! MISSING
            variable 0 {-1,4} ! ARGUMENT
            """);
        Script.test(check, "queued: the node, the queue, the message, then what", """
            join 0; subscribe 0 {0,1} 1; publish 0 0 7
            queued {-1,1,6} {-1,0,6} {-1,0,1} {-1,0,3} ! MISSING
            queued 0 {-1,2,6} {-1,0,1} {-1,0,3} ! MISSING
            queued 0 1 {-1,0,1} {-1,0,3} ! MISSING
            queued 0 0 {-1,1} {-1,0,3} ! MISSING
            queued 0 0 0 {-1,3} ! ARGUMENT
            """);
    }

    private static void ofActionsAndServices(Check check) {
        Script.test(check, "act: the node, then all else", """
            join 0
            act {-1,1,6} {-1,0,6} {-2,-1,0,2,5} {-1,0,6} {-101,0,101} ! MISSING
            act 0 {-1,6} {-2,-1,0,2,5} {-1,0,6} 0 ! ARGUMENT
            """);
        Script.test(check, "offer: the node, then all else", """
            join 0
            offer {-1,1,6} {-1,0,4} {-1,0,3,4} {-101,0,4} {-1001,0} ! MISSING
            offer 0 {-1,4} {-1,0,3,4} {-101,0,4} {-1001,0} ! ARGUMENT
            """);
        Script.test(check, "call: the service, then who offers it", """
            call {-1,4} 0 ! ARGUMENT
            call {0..3} 0 ! MISSING
            """);
    }

    private static void ofTheBag(Check check) {
        Script.test(check, "play: the speed before the empty bag", """
            play {0,5} ! ARGUMENT
            play {1,4} ! UNSUPPORTED
            """);
        Script.test(check, "play: the speed before that it is playing", """
            join 0; keep 0 true; publish 0 0 1; play 1
            play {0,5} ! ARGUMENT
            play {1,4} ! STATE
            """);
    }

    private static void ofFrames(Check check) {
        Script.test(check, "mount: the range before that it would be above itself", """
            mount 0 0 ! ARGUMENT; mount 6 6 ! ARGUMENT; mount -1 -1 ! ARGUMENT
            mount 1 0
            mount 0 1 ! ARGUMENT
            mount 1 1 ! STATE
            """);
        Script.test(check, "sample: the parent before all else", """
            sample {-1,0,1,5,6} {-1,0,100001} {0,0.1,NaN} {0,1025} {-1,0,4} ! MISSING
            """);
        Script.test(check, "sample: place, turn and time before the last time", """
            mount 1 0; sample 1 5 0 0 0
            sample 1 {-1,0,5,100001} {0.1,NaN} 0 0 ! ARGUMENT
            sample 1 {-1,0,5,100001} 0 {0.1,NaN} 0 ! ARGUMENT
            sample 1 {-1,0,5,100001} 0 0 {-1,4} ! ARGUMENT
            sample 1 {-1,100001} 0 0 0 ! ARGUMENT
            sample 1 {0,5} 0 0 0 ! STATE
            """);
        Script.test(check, "locate: frame and point before the way", """
            locate {-1,1,5,6} {-1,0} {0.1,NaN,1025} {0,0.1} ! ARGUMENT
            locate {-1,1,5,6} {-1,0} 0 {0.1,NaN,1025} ! ARGUMENT
            locate {-1,6} {-1,0} 0 0 ! ARGUMENT
            """);
        Script.test(check, "locate: frame and point before the places", """
            mount 1 0
            locate {0,1} 0 {0.1,NaN,1025} 0 ! ARGUMENT
            locate 1 0 0 0 ! ARITHMETIC
            """);
        Script.test(check, "locate: the way before the places", """
            mount 1 2
            locate {1,2} 0 0 0 ! MISSING
            sample 1 0 0 0 0
            locate 1 {0,1} 0 0 ! MISSING
            mount 2 0
            locate 1 {0,1} 0 0 ! ARITHMETIC
            """);
    }
}
