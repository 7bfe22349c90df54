import java.util.NoSuchElementException;

/**
 * Middleware for robots: nodes, topics, queues, services, a bag of records and moving frames.
 *
 * All rows are made with the object and used again, so that no call makes anything but what it throws.
 */
public final class RobotBus {
    private static final int NODES = 6;
    private static final int VARIABLES = 4;
    private static final int TOPICS = 6;
    private static final int SERVICES = 4;
    private static final int FRAMES = 6;
    private static final int MAX_DEPTH = 4;
    private static final int MAX_TICKS = 8;
    private static final int MAX_RECORDS = 30;
    private static final int MAX_SPEED = 4;
    private static final int MAX_SAMPLES = 4;
    private static final int MAX_TIME = 100000;
    private static final int MAX_COORDINATE = 1024;
    private static final int EIGHTHS = 8;
    private static final int TURNS = 4;
    private static final int MAX_FACTOR = 100;
    private static final int MAX_SUMMAND = 1000;

    private static final int ROOT = 0;
    private static final int NONE = -1;
    private static final int PLAYER = -1;

    private static final int ACTION_KEEP = 0;
    private static final int ACTION_ADD = 1;
    private static final int ACTION_FORWARD = 2;
    private static final int ACTION_ASK = 3;
    private static final int ACTION_SHOW = 4;

    private static final int SERVICE_LINEAR = 0;
    private static final int SERVICE_SUM = 1;
    private static final int SERVICE_QUOTIENT = 2;
    private static final int SERVICE_RELAY = 3;

    private static final int ANSWERED = 0;
    private static final int NOT_OFFERED = 1;
    private static final int DIVIDED_BY_ZERO = 2;

    private final Node[] nodes = new Node[NODES];
    private final Topic[] topics = new Topic[TOPICS];
    private final Service[] services = new Service[SERVICES];
    private final Frame[] frames = new Frame[FRAMES];
    private final Bag bag = new Bag();
    private final Point point = new Point();
    private int clock = 0;
    private int messagesLost = 0;
    private int messagesPublished = 0;
    private int actionsDone = 0;
    private int asksFailed = 0;
    private int answer = 0;
    private double keptY = 0;

    public RobotBus() {
        for (int i = 0; i < NODES; i++) {
            nodes[i] = new Node();
        }
        for (int i = 0; i < TOPICS; i++) {
            topics[i] = new Topic();
        }
        for (int i = 0; i < SERVICES; i++) {
            services[i] = new Service();
        }
        for (int i = 0; i < FRAMES; i++) {
            frames[i] = new Frame();
        }
    }

    public int join(int node) throws IllegalArgumentException, IllegalStateException {
        if (!isBelow(node, NODES)) {
            throw new IllegalArgumentException("no such number of a node");
        }
        if (nodes[node].present) {
            throw new IllegalStateException("the node is there");
        }
        nodes[node].present = true;
        return 1;
    }

    public int leave(int node) throws NoSuchElementException {
        if (!isThere(node)) {
            throw new NoSuchElementException("no such node");
        }
        for (int i = 0; i < SERVICES; i++) {
            if (services[i].node == node) {
                services[i].node = NONE;
            }
        }
        return nodes[node].reset();
    }

    public int latch(int topic, boolean on) throws IllegalArgumentException {
        if (!isBelow(topic, TOPICS)) {
            throw new IllegalArgumentException("no such topic");
        }
        boolean changes = topics[topic].latched != on;
        topics[topic].latched = on;
        return changes ? 1 : 0;
    }

    public int subscribe(int node, int topic, int depth) throws NoSuchElementException, IllegalArgumentException {
        if (!isThere(node)) {
            throw new NoSuchElementException("no such node");
        }
        if (!isBelow(topic, TOPICS) || !isWithin(depth, 1, MAX_DEPTH)) {
            throw new IllegalArgumentException("no such topic or depth");
        }
        Queue queue = nodes[node].queues[topic];
        boolean isNew = !queue.isOpen();
        messagesLost += queue.deepen(depth);
        Topic source = topics[topic];
        if (isNew && source.latched && source.hasLast) {
            queue.append(source.lastValue, source.lastSender, source.lastStamp);
        }
        return queue.size;
    }

    public int unsubscribe(int node, int topic) throws NoSuchElementException, IllegalArgumentException {
        if (!isThere(node)) {
            throw new NoSuchElementException("no such node");
        }
        if (!isBelow(topic, TOPICS)) {
            throw new IllegalArgumentException("no such topic");
        }
        if (!nodes[node].queues[topic].isOpen()) {
            throw new NoSuchElementException("the node is not subscribed");
        }
        return nodes[node].queues[topic].close();
    }

    public int publish(int node, int topic, int value) throws NoSuchElementException, IllegalArgumentException {
        if (!isThere(node)) {
            throw new NoSuchElementException("no such node");
        }
        if (!isBelow(topic, TOPICS)) {
            throw new IllegalArgumentException("no such topic");
        }
        return send(topic, value, node);
    }

    public int act(int node, int topic, int kind, int a, int b)
            throws NoSuchElementException, IllegalArgumentException {
        if (!isThere(node)) {
            throw new NoSuchElementException("no such node");
        }
        if (!isBelow(topic, TOPICS) || !isAction(kind, a, b)) {
            throw new IllegalArgumentException("no such topic or action");
        }
        Action action = nodes[node].actions[topic];
        int hadNone = action.kind == NONE ? 1 : 0;
        action.kind = kind;
        action.a = a;
        action.b = b;
        return hadNone;
    }

    public int offer(int node, int service, int kind, int c, int d)
            throws NoSuchElementException, IllegalArgumentException {
        if (!isThere(node)) {
            throw new NoSuchElementException("no such node");
        }
        if (!isBelow(service, SERVICES) || !isService(service, kind, c, d)) {
            throw new IllegalArgumentException("no such service or kind of it");
        }
        Service offered = services[service];
        int noneDid = offered.node == NONE ? 1 : 0;
        offered.node = node;
        offered.kind = kind;
        offered.c = c;
        offered.d = d;
        return noneDid;
    }

    public int call(int service, int question)
            throws IllegalArgumentException, NoSuchElementException, ArithmeticException {
        if (!isBelow(service, SERVICES)) {
            throw new IllegalArgumentException("no such service");
        }
        int outcome = ask(service, question);
        if (outcome == NOT_OFFERED) {
            throw new NoSuchElementException("none offers the service, or one that it asks");
        }
        if (outcome == DIVIDED_BY_ZERO) {
            throw new ArithmeticException("the service would divide by 0");
        }
        return answer;
    }

    public int tick(int n) throws IllegalArgumentException {
        if (!isWithin(n, 1, MAX_TICKS)) {
            throw new IllegalArgumentException("no such number of ticks");
        }
        for (int i = 0; i < n; i++) {
            passOneTick();
        }
        return clock;
    }

    public int variable(int node, int variable) throws NoSuchElementException, IllegalArgumentException {
        if (!isThere(node)) {
            throw new NoSuchElementException("no such node");
        }
        if (!isBelow(variable, VARIABLES)) {
            throw new IllegalArgumentException("no such variable");
        }
        return nodes[node].variables[variable];
    }

    public int queued(int node, int topic, int k, int what) throws NoSuchElementException, IllegalArgumentException {
        if (!isThere(node) || !isBelow(topic, TOPICS)) {
            throw new NoSuchElementException("no such node or queue");
        }
        Queue queue = nodes[node].queues[topic];
        if (!isBelow(k, queue.size)) {
            throw new NoSuchElementException("no such message");
        }
        if (!isBelow(what, Queue.PARTS)) {
            throw new IllegalArgumentException("no such part of a message");
        }
        return queue.part(k, what);
    }

    public int keep(int topic, boolean on) throws IllegalArgumentException {
        if (!isBelow(topic, TOPICS)) {
            throw new IllegalArgumentException("no such topic");
        }
        boolean changes = topics[topic].recorded != on;
        topics[topic].recorded = on;
        return changes ? 1 : 0;
    }

    public int play(int speed) throws IllegalArgumentException, IllegalStateException, UnsupportedOperationException {
        if (!isWithin(speed, 1, MAX_SPEED)) {
            throw new IllegalArgumentException("no such speed");
        }
        if (bag.isPlaying()) {
            throw new IllegalStateException("the bag is playing");
        }
        if (bag.size == 0) {
            throw new UnsupportedOperationException("the bag is empty");
        }
        bag.start(clock, speed);
        return bag.size;
    }

    public int empty() throws IllegalStateException {
        if (bag.isPlaying()) {
            throw new IllegalStateException("the bag is playing");
        }
        int had = bag.size;
        bag.size = 0;
        return had;
    }

    public int mount(int frame, int parent) throws IllegalArgumentException, IllegalStateException {
        if (frame == ROOT || !isBelow(frame, FRAMES) || !isBelow(parent, FRAMES)) {
            throw new IllegalArgumentException("no such frame or parent");
        }
        if (isAbove(frame, parent)) {
            throw new IllegalStateException("the frame would be above itself");
        }
        int before = frames[frame].parent;
        frames[frame].parent = parent;
        frames[frame].size = 0;
        return before;
    }

    public int sample(int frame, int time, double x, double y, int turn)
            throws NoSuchElementException, IllegalArgumentException, IllegalStateException {
        if (!isBelow(frame, FRAMES) || frames[frame].parent == NONE) {
            throw new NoSuchElementException("the frame has no parent");
        }
        if (!isCoordinate(x) || !isCoordinate(y) || !isBelow(turn, TURNS) || !isWithin(time, 0, MAX_TIME)) {
            throw new IllegalArgumentException("no such place, turn or time");
        }
        if (!frames[frame].isBehindLast(time)) {
            throw new IllegalStateException("the time is not greater than the last one");
        }
        frames[frame].append(time, toEighths(x), toEighths(y), turn);
        return frames[frame].size;
    }

    public double locate(int frame, int time, double x, double y)
            throws IllegalArgumentException, NoSuchElementException, ArithmeticException {
        if (!isBelow(frame, FRAMES) || !isCoordinate(x) || !isCoordinate(y)) {
            throw new IllegalArgumentException("no such frame or point");
        }
        if (!isAbove(ROOT, frame)) {
            throw new NoSuchElementException("the frames above do not lead to the root");
        }
        point.x = toEighths(x);
        point.y = toEighths(y);
        if (!liftToRoot(frame, time)) {
            throw new ArithmeticException("a frame is nowhere at that time");
        }
        keptY = (double) point.y / EIGHTHS;
        return (double) point.x / EIGHTHS;
    }

    public double lastY() {
        return keptY;
    }

    public int count(int what) throws IllegalArgumentException {
        switch (what) {
            case 0:
                return clock;
            case 1:
                return messagesLost;
            case 2:
                return messagesPublished;
            case 3:
                return bag.size;
            case 4:
                return bag.isPlaying() ? 1 : 0;
            case 5:
                return actionsDone;
            case 6:
                return asksFailed;
            default:
                throw new IllegalArgumentException("nothing is counted under that number");
        }
    }

    private static boolean isWithin(int number, int least, int greatest) {
        return number >= least && number <= greatest;
    }

    private static boolean isBelow(int number, int bound) {
        return number >= 0 && number < bound;
    }

    private boolean isThere(int node) {
        return isBelow(node, NODES) && nodes[node].present;
    }

    private static boolean isAction(int kind, int a, int b) {
        switch (kind) {
            case NONE:
                return true;
            case ACTION_KEEP:
            case ACTION_ADD:
                return isBelow(a, VARIABLES);
            case ACTION_FORWARD:
                return isBelow(a, TOPICS) && isWithin(b, -MAX_FACTOR, MAX_FACTOR);
            case ACTION_ASK:
                return isBelow(a, SERVICES) && isBelow(b, VARIABLES);
            case ACTION_SHOW:
                return isBelow(a, TOPICS) && isBelow(b, VARIABLES);
            default:
                return false;
        }
    }

    private static boolean isService(int service, int kind, int c, int d) {
        if (!isWithin(d, -MAX_SUMMAND, MAX_SUMMAND)) {
            return false;
        }
        switch (kind) {
            case SERVICE_LINEAR:
                return isWithin(c, -MAX_FACTOR, MAX_FACTOR);
            case SERVICE_SUM:
            case SERVICE_QUOTIENT:
                return isBelow(c, VARIABLES);
            case SERVICE_RELAY:
                return isBelow(c, service);
            default:
                return false;
        }
    }

    // The range is tested first: it keeps out what is no number, and what would not fit an int.
    private static boolean isCoordinate(double x) {
        return x >= -MAX_COORDINATE && x <= MAX_COORDINATE && toEighths(x) == x * EIGHTHS;
    }

    private static int toEighths(double x) {
        return (int) (x * EIGHTHS);
    }

    private int send(int topic, int value, int sender) {
        int reached = 0;
        for (int i = 0; i < NODES; i++) {
            Queue queue = nodes[i].queues[topic];
            if (queue.isOpen()) {
                messagesLost += queue.append(value, sender, clock);
                reached++;
            }
        }
        topics[topic].setLast(value, sender, clock);
        if (topics[topic].recorded && sender != PLAYER) {
            bag.append(clock, topic, value);
        }
        messagesPublished++;
        return reached;
    }

    private void passOneTick() {
        clock++;
        for (int i = 0; i < MAX_RECORDS && bag.isDue(clock); i++) {
            int record = bag.takeNext();
            send(bag.topics[record], bag.values[record], PLAYER);
        }
        for (int i = 0; i < NODES; i++) {
            if (nodes[i].present) {
                spin(i);
            }
        }
    }

    private void spin(int number) {
        Node node = nodes[number];
        int topic = node.nextTopic();
        if (topic == NONE) {
            return;
        }
        int value = node.takeFrom(topic);
        if (node.actions[topic].kind != NONE) {
            perform(number, node.actions[topic], value);
            actionsDone++;
        }
    }

    private void perform(int number, Action action, int value) {
        int[] variables = nodes[number].variables;
        switch (action.kind) {
            case ACTION_KEEP:
                variables[action.a] = value;
                break;
            case ACTION_ADD:
                variables[action.a] += value;
                break;
            case ACTION_FORWARD:
                send(action.a, value * action.b, number);
                break;
            case ACTION_ASK:
                if (ask(action.a, value) == ANSWERED) {
                    variables[action.b] = answer;
                } else {
                    asksFailed++;
                }
                break;
            case ACTION_SHOW:
                send(action.a, variables[action.b], number);
                break;
            default:
                break;
        }
    }

    // Only the service at the end of a chain of relays can fail by a 0 or change a variable,
    // so what the relays add is gathered on the way to it.
    private int ask(int service, int question) {
        int at = service;
        int added = 0;
        for (int step = 0; step < SERVICES; step++) {
            Service asked = services[at];
            if (asked.node == NONE) {
                return NOT_OFFERED;
            }
            if (asked.kind != SERVICE_RELAY) {
                return compute(asked, question, added);
            }
            added += asked.d;
            at = asked.c;
        }
        return NOT_OFFERED;
    }

    private int compute(Service asked, int question, int added) {
        if (asked.kind == SERVICE_LINEAR) {
            answer = asked.c * question + asked.d + added;
            return ANSWERED;
        }
        int[] variables = nodes[asked.node].variables;
        if (asked.kind == SERVICE_SUM) {
            variables[asked.c] += question;
            answer = variables[asked.c] + added;
            return ANSWERED;
        }
        int divisor = variables[asked.c];
        if (divisor == 0) {
            return DIVIDED_BY_ZERO;
        }
        answer = question / divisor + added;
        return ANSWERED;
    }

    // A frame counts as above itself here.
    private boolean isAbove(int upper, int lower) {
        int at = lower;
        for (int step = 0; step < FRAMES && at != NONE; step++) {
            if (at == upper) {
                return true;
            }
            at = frames[at].parent;
        }
        return false;
    }

    // Answers whether all frames on the way are somewhere; the point is of use only then.
    private boolean liftToRoot(int frame, int time) {
        int at = frame;
        for (int step = 0; step < FRAMES && at != ROOT; step++) {
            int index = frames[at].indexAt(time);
            if (index == NONE) {
                return false;
            }
            point.lift(frames[at], index, time);
            at = frames[at].parent;
        }
        return true;
    }

    private static final class Topic {
        boolean latched = false;
        boolean recorded = false;
        boolean hasLast = false;
        int lastValue = 0;
        int lastSender = 0;
        int lastStamp = 0;

        void setLast(int value, int sender, int stamp) {
            hasLast = true;
            lastValue = value;
            lastSender = sender;
            lastStamp = stamp;
        }
    }

    private static final class Action {
        int kind = NONE;
        int a = 0;
        int b = 0;
    }

    private static final class Service {
        int node = NONE;
        int kind = 0;
        int c = 0;
        int d = 0;
    }

    /** The queue of one subscription; its depth is 0 while there is none. */
    private static final class Queue {
        static final int PARTS = 3;

        final int[] cells = new int[MAX_DEPTH * PARTS];
        int depth = 0;
        int size = 0;

        boolean isOpen() {
            return depth > 0;
        }

        int part(int place, int what) {
            return cells[place * PARTS + what];
        }

        int close() {
            int had = size;
            depth = 0;
            size = 0;
            return had;
        }

        /** Answers how many messages are lost by it. */
        int deepen(int newDepth) {
            int tooMany = Math.max(0, size - newDepth);
            dropOldest(tooMany);
            depth = newDepth;
            return tooMany;
        }

        /** Answers how many messages are lost by it. */
        int append(int value, int sender, int stamp) {
            int tooMany = size < depth ? 0 : 1;
            dropOldest(tooMany);
            int start = size * PARTS;
            cells[start] = value;
            cells[start + 1] = sender;
            cells[start + 2] = stamp;
            size++;
            return tooMany;
        }

        void dropOldest(int many) {
            size -= many;
            System.arraycopy(cells, many * PARTS, cells, 0, size * PARTS);
        }
    }

    private static final class Node {
        final int[] variables = new int[VARIABLES];
        final Queue[] queues = new Queue[TOPICS];
        final Action[] actions = new Action[TOPICS];
        boolean present = false;
        int firstLookedAt = 0;

        Node() {
            for (int i = 0; i < TOPICS; i++) {
                queues[i] = new Queue();
                actions[i] = new Action();
            }
        }

        /** Makes it as a node is that never came; answers how many messages were in its queues. */
        int reset() {
            int had = 0;
            for (int i = 0; i < TOPICS; i++) {
                had += queues[i].close();
                actions[i].kind = NONE;
            }
            for (int i = 0; i < VARIABLES; i++) {
                variables[i] = 0;
            }
            present = false;
            firstLookedAt = 0;
            return had;
        }

        int nextTopic() {
            for (int i = 0; i < TOPICS; i++) {
                int topic = (firstLookedAt + i) % TOPICS;
                if (queues[topic].size > 0) {
                    return topic;
                }
            }
            return NONE;
        }

        int takeFrom(int topic) {
            int value = queues[topic].part(0, 0);
            queues[topic].dropOldest(1);
            firstLookedAt = (topic + 1) % TOPICS;
            return value;
        }
    }

    /** The records, and the player's place among them: it plays while next is below end. */
    private static final class Bag {
        final int[] times = new int[MAX_RECORDS];
        final int[] topics = new int[MAX_RECORDS];
        final int[] values = new int[MAX_RECORDS];
        int size = 0;
        int next = 0;
        int end = 0;
        int startClock = 0;
        int pace = 1;

        void append(int time, int topic, int value) {
            if (size < MAX_RECORDS) {
                times[size] = time;
                topics[size] = topic;
                values[size] = value;
                size++;
            }
        }

        void start(int clock, int speed) {
            next = 0;
            end = size;
            startClock = clock;
            pace = speed;
        }

        boolean isPlaying() {
            return next < end;
        }

        boolean isDue(int clock) {
            if (!isPlaying()) {
                return false;
            }
            int passed = times[next] - times[0];
            return startClock + (passed + pace - 1) / pace <= clock;
        }

        int takeNext() {
            int record = next;
            next++;
            return record;
        }
    }

    /** A frame with its samples by rising times; places are counted in eighths. */
    private static final class Frame {
        final int[] times = new int[MAX_SAMPLES];
        final int[] xs = new int[MAX_SAMPLES];
        final int[] ys = new int[MAX_SAMPLES];
        final int[] turns = new int[MAX_SAMPLES];
        int parent = NONE;
        int size = 0;

        boolean isBehindLast(int time) {
            return size == 0 || time > times[size - 1];
        }

        void append(int time, int x, int y, int turn) {
            if (size == MAX_SAMPLES) {
                dropFirst();
            }
            times[size] = time;
            xs[size] = x;
            ys[size] = y;
            turns[size] = turn;
            size++;
        }

        void dropFirst() {
            size--;
            System.arraycopy(times, 1, times, 0, size);
            System.arraycopy(xs, 1, xs, 0, size);
            System.arraycopy(ys, 1, ys, 0, size);
            System.arraycopy(turns, 1, turns, 0, size);
        }

        /** The last sample that is not behind the time, or NONE where the frame is nowhere then. */
        int indexAt(int time) {
            if (isBehindLast(time)) {
                return NONE;
            }
            int index = NONE;
            for (int i = 0; i < size && times[i] <= time; i++) {
                index = i;
            }
            return index;
        }

        int between(int[] places, int index, int time) {
            int span = index + 1 < size ? times[index + 1] - times[index] : 0;
            if (span <= 0) {
                return places[index];
            }
            long way = (long) (places[index + 1] - places[index]) * (time - times[index]);
            return places[index] + (int) Math.floorDiv(way, (long) span);
        }
    }

    /** A point on its way up to the root, in eighths. */
    private static final class Point {
        int x = 0;
        int y = 0;

        void lift(Frame frame, int index, int time) {
            turnBy(frame.turns[index]);
            x += frame.between(frame.xs, index, time);
            y += frame.between(frame.ys, index, time);
        }

        void turnBy(int turn) {
            for (int i = 0; i < turn; i++) {
                int oldX = x;
                x = -y;
                y = oldX;
            }
        }
    }
}
