import java.util.ArrayList;
import java.util.Arrays;
import java.util.LinkedHashMap;
import java.util.LinkedList;
import java.util.List;
import java.util.Map;
import java.util.NoSuchElementException;
import java.util.TreeMap;

/** The document once more, written for plainness with the Java library, to compare random runs with. */
final class BusModel {
    private record Message(int value, int sender, int stamp) { }

    private record Action(int kind, int a, int b) { }

    private record Service(int node, int kind, int c, int d) { }

    private record Entry(int time, int topic, int value) { }

    private record Sample(double x, double y, int turn) { }

    private static final class Node {
        final int[] variables = new int[4];
        final Map<Integer, LinkedList<Message>> queues = new LinkedHashMap<>();
        final Map<Integer, Integer> depths = new LinkedHashMap<>();
        final Map<Integer, Action> actions = new LinkedHashMap<>();
        int tookFrom = -1;
    }

    private final TreeMap<Integer, Node> nodes = new TreeMap<>();
    private final boolean[] latched = new boolean[6];
    private final boolean[] recorded = new boolean[6];
    private final Message[] last = new Message[6];
    private final Map<Integer, Service> services = new LinkedHashMap<>();
    private final List<Entry> bag = new ArrayList<>();
    private final LinkedList<Entry> toPlay = new LinkedList<>();
    private final Map<Integer, Integer> parents = new LinkedHashMap<>();
    private final Map<Integer, TreeMap<Integer, Sample>> samples = new LinkedHashMap<>();
    private final int[] counts = new int[7];
    private double keptY = 0;

    private static void need(boolean holds) {
        if (!holds) {
            throw new IllegalArgumentException();
        }
    }

    private static void needState(boolean holds) {
        if (!holds) {
            throw new IllegalStateException();
        }
    }

    private static <T> T there(T thing) {
        if (thing == null) {
            throw new NoSuchElementException();
        }
        return thing;
    }

    private static boolean in(int number, int least, int greatest) {
        return least <= number && number <= greatest;
    }

    int join(int node) {
        need(in(node, 0, 5));
        needState(!nodes.containsKey(node));
        nodes.put(node, new Node());
        return 1;
    }

    int leave(int node) {
        Node gone = there(nodes.remove(node));
        services.values().removeIf(service -> service.node() == node);
        return gone.queues.values().stream().mapToInt(List::size).sum();
    }

    int latch(int topic, boolean on) {
        return change(latched, topic, on);
    }

    int keep(int topic, boolean on) {
        return change(recorded, topic, on);
    }

    private static int change(boolean[] flags, int topic, boolean on) {
        need(in(topic, 0, 5));
        boolean before = flags[topic];
        flags[topic] = on;
        return before == on ? 0 : 1;
    }

    int subscribe(int number, int topic, int depth) {
        Node node = there(nodes.get(number));
        need(in(topic, 0, 5) && in(depth, 1, 4));
        boolean isNew = node.depths.put(topic, depth) == null;
        LinkedList<Message> queue = node.queues.computeIfAbsent(topic, key -> new LinkedList<>());
        if (isNew && latched[topic] && last[topic] != null) {
            queue.add(last[topic]);
        }
        trim(queue, depth);
        return queue.size();
    }

    private void trim(LinkedList<Message> queue, int depth) {
        while (queue.size() > depth) {
            queue.removeFirst();
            counts[1]++;
        }
    }

    int unsubscribe(int number, int topic) {
        Node node = there(nodes.get(number));
        need(in(topic, 0, 5));
        there(node.depths.remove(topic));
        return node.queues.remove(topic).size();
    }

    int publish(int number, int topic, int value) {
        there(nodes.get(number));
        need(in(topic, 0, 5));
        return spread(topic, new Message(value, number, counts[0]));
    }

    private int spread(int topic, Message message) {
        int reached = 0;
        for (Node node : nodes.values()) {
            if (node.depths.containsKey(topic)) {
                node.queues.get(topic).add(message);
                trim(node.queues.get(topic), node.depths.get(topic));
                reached++;
            }
        }
        last[topic] = message;
        counts[2]++;
        if (recorded[topic] && message.sender() != -1 && bag.size() < 30) {
            bag.add(new Entry(message.stamp(), topic, message.value()));
        }
        return reached;
    }

    int act(int number, int topic, int kind, int a, int b) {
        Node node = there(nodes.get(number));
        need(in(topic, 0, 5) && in(kind, -1, 4));
        need(kind == -1 || in(a, 0, kind == 2 || kind == 4 ? 5 : 3));
        need(kind != 2 || in(b, -100, 100));
        need(kind < 3 || in(b, 0, 3));
        Action before = kind == -1 ? node.actions.remove(topic) : node.actions.put(topic, new Action(kind, a, b));
        return before == null ? 1 : 0;
    }

    int offer(int number, int service, int kind, int c, int d) {
        there(nodes.get(number));
        need(in(service, 0, 3) && in(kind, 0, 3) && in(d, -1000, 1000));
        need(kind == 0 ? in(c, -100, 100) : in(c, 0, kind == 3 ? service - 1 : 3));
        return services.put(service, new Service(number, kind, c, d)) == null ? 1 : 0;
    }

    int call(int number, int question) {
        need(in(number, 0, 3));
        Service service = there(services.get(number));
        int[] variables = nodes.get(service.node()).variables;
        switch (service.kind()) {
            case 0:
                return service.c() * question + service.d();
            case 1:
                return variables[service.c()] += question;
            case 2:
                return question / variables[service.c()];
            default:
                return call(service.c(), question) + service.d();
        }
    }

    int tick(int n) {
        need(in(n, 1, 8));
        for (int i = 0; i < n; i++) {
            int clock = ++counts[0];
            while (!toPlay.isEmpty() && toPlay.getFirst().time() <= clock) {
                Entry entry = toPlay.removeFirst();
                spread(entry.topic(), new Message(entry.value(), -1, clock));
            }
            nodes.forEach(this::spin);
        }
        return counts[0];
    }

    private void spin(int number, Node node) {
        for (int i = 1; i <= 6; i++) {
            int topic = (node.tookFrom + i) % 6;
            LinkedList<Message> queue = node.queues.getOrDefault(topic, new LinkedList<>());
            if (!queue.isEmpty()) {
                node.tookFrom = topic;
                int value = queue.removeFirst().value();
                if (node.actions.containsKey(topic)) {
                    counts[5]++;
                    perform(number, node, node.actions.get(topic), value);
                }
                return;
            }
        }
    }

    private void perform(int number, Node node, Action action, int value) {
        switch (action.kind()) {
            case 0 -> node.variables[action.a()] = value;
            case 1 -> node.variables[action.a()] += value;
            case 2 -> spread(action.a(), new Message(value * action.b(), number, counts[0]));
            case 4 -> spread(action.a(), new Message(node.variables[action.b()], number, counts[0]));
            default -> {
                try {
                    node.variables[action.b()] = call(action.a(), value);
                } catch (NoSuchElementException | ArithmeticException e) {
                    counts[6]++;
                }
            }
        }
    }

    int variable(int number, int variable) {
        Node node = there(nodes.get(number));
        need(in(variable, 0, 3));
        return node.variables[variable];
    }

    int queued(int number, int topic, int k, int what) {
        LinkedList<Message> queue = there(there(nodes.get(number)).queues.get(topic));
        Message message = there(in(k, 0, queue.size() - 1) ? queue.get(k) : null);
        need(in(what, 0, 2));
        return new int[] {message.value(), message.sender(), message.stamp()}[what];
    }

    int play(int speed) {
        need(in(speed, 1, 4));
        needState(toPlay.isEmpty());
        if (bag.isEmpty()) {
            throw new UnsupportedOperationException();
        }
        for (Entry entry : bag) {
            int due = counts[0] + (int) Math.ceil((entry.time() - bag.get(0).time()) / (double) speed);
            toPlay.add(new Entry(due, entry.topic(), entry.value()));
        }
        return bag.size();
    }

    int empty() {
        needState(toPlay.isEmpty());
        int had = bag.size();
        bag.clear();
        return had;
    }

    int mount(int frame, int parent) {
        need(in(frame, 1, 5) && in(parent, 0, 5));
        needState(!wayUp(parent).contains(frame));
        Integer before = parents.put(frame, parent);
        samples.put(frame, new TreeMap<>());
        return before == null ? -1 : before;
    }

    private List<Integer> wayUp(int frame) {
        List<Integer> way = new ArrayList<>();
        for (Integer at = frame; at != null; at = parents.get(at)) {
            way.add(at);
        }
        return way;
    }

    private static boolean isCoordinate(double x) {
        return Math.abs(x) <= 1024 && Math.rint(x * 8) == x * 8;
    }

    int sample(int frame, int time, double x, double y, int turn) {
        there(parents.get(frame));
        need(isCoordinate(x) && isCoordinate(y) && in(turn, 0, 3) && in(time, 0, 100000));
        TreeMap<Integer, Sample> known = samples.get(frame);
        needState(known.isEmpty() || time > known.lastKey());
        known.put(time, new Sample(x, y, turn));
        if (known.size() > 4) {
            known.pollFirstEntry();
        }
        return known.size();
    }

    double locate(int frame, int time, double x, double y) {
        need(in(frame, 0, 5) && isCoordinate(x) && isCoordinate(y));
        List<Integer> way = wayUp(frame);
        there(way.contains(0) ? way : null);
        double[] point = {x, y};
        for (int at : way.subList(0, way.size() - 1)) {
            point = inParent(samples.get(at), time, point[0], point[1]);
        }
        keptY = point[1];
        return point[0];
    }

    private static double[] inParent(TreeMap<Integer, Sample> known, int time, double x, double y) {
        Map.Entry<Integer, Sample> earlier = known.floorEntry(time);
        Map.Entry<Integer, Sample> later = known.ceilingEntry(time);
        if (earlier == null || later == null) {
            throw new ArithmeticException();
        }
        Sample from = earlier.getValue();
        Sample to = later.getValue();
        double atX = between(from.x(), to.x(), time - earlier.getKey(), later.getKey() - earlier.getKey());
        double atY = between(from.y(), to.y(), time - earlier.getKey(), later.getKey() - earlier.getKey());
        double[][] turned = {{x, y}, {-y, x}, {-x, -y}, {y, -x}};
        return new double[] {atX + turned[from.turn()][0], atY + turned[from.turn()][1]};
    }

    private static double between(double from, double to, long passed, long span) {
        return span == 0 ? from : from + Math.floorDiv((long) ((to - from) * 8) * passed, span) / 8.0;
    }

    double lastY() {
        return keptY;
    }

    int count(int what) {
        need(in(what, 0, 6));
        counts[3] = bag.size();
        counts[4] = toPlay.isEmpty() ? 0 : 1;
        return counts[what];
    }

    @Override
    public String toString() {
        return nodes.keySet() + " " + Arrays.toString(counts);
    }
}
