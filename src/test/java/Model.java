import java.util.ArrayList;
import java.util.LinkedHashMap;
import java.util.List;
import java.util.Map;
import java.util.NoSuchElementException;
import java.util.TreeMap;

/**
 * A second telling of the document, held in maps and lists: each step makes a new world, and a
 * checkpoint is simply a world that is kept.
 */
final class Model {
    private record Node(double value, Map<Integer, Double> edges, boolean awake, List<Double> messages) {
        Node with(double newValue, boolean newAwake) {
            return new Node(newValue, edges, newAwake, messages);
        }

        Node mail(List<Double> newMessages) {
            return new Node(value, edges, awake, newMessages);
        }
    }

    private record World(TreeMap<Integer, Node> nodes, int superstep, double aggregate) {
    }

    private record Letter(int from, int to, double x) {
    }

    private static final class Fails extends Exception {
        private static final long serialVersionUID = 1L;
    }

    private World world = new World(new TreeMap<>(), 0, 0.0);
    private World checkpoint = null;
    private int state = 0;
    private int program = 0;
    private int number = 0;
    private boolean combines = false;

    int vertex(int vertex, double value) {
        argument(vertex >= 0 && vertex <= 11 && value >= -100000.0 && value <= 100000.0);
        state(state == 0);
        Node old = world.nodes.get(vertex);
        world.nodes.put(vertex, new Node(value, old == null ? new LinkedHashMap<>() : old.edges, false, List.of()));
        return world.nodes.size();
    }

    int edge(int from, int to, double length) {
        argument(from >= 0 && from <= 11 && to >= 0 && to <= 11 && length >= 0.0 && length <= 1000.0);
        Node node = node(from);
        node(to);
        state(state == 0);
        node.edges.put(to, length);
        return node.edges.size();
    }

    int remove(int vertex) {
        argument(vertex >= 0 && vertex <= 11);
        node(vertex);
        state(state == 0);
        world.nodes.remove(vertex);
        int cut = 0;
        for (Node node : world.nodes.values()) {
            cut += node.edges.remove(vertex) == null ? 0 : 1;
        }
        return cut;
    }

    int start(int newProgram, int newNumber, boolean newCombines) {
        argument(newProgram >= 0 && newProgram <= 3 && newNumber >= 0 && newNumber <= 30);
        state(state == 0 && !world.nodes.isEmpty());
        program = newProgram;
        number = newNumber;
        combines = newCombines;
        TreeMap<Integer, Node> nodes = new TreeMap<>();
        world.nodes.forEach((v, node) -> nodes.put(v, node.with(node.value, true).mail(List.of())));
        world = new World(nodes, 0, program == 3 ? 1.0 : 0.0);
        checkpoint = null;
        state = 1;
        return nodes.size();
    }

    int step(int n) {
        argument(n >= 1 && n <= 10);
        state(state == 1);
        int done = 0;
        while (done < n && state == 1) {
            try {
                world = next();
            } catch (Fails e) {
                state = 2;
                throw new UnsupportedOperationException();
            }
            done++;
            if (world.nodes.values().stream().noneMatch(node -> node.awake || !node.messages.isEmpty())) {
                state = 0;
            }
        }
        return done;
    }

    int save() {
        state(state == 1);
        checkpoint = copy(world);
        return world.superstep;
    }

    int lose(int worker) {
        argument(worker >= 0 && worker <= 2);
        state(state == 1);
        state = 2;
        int lost = 0;
        for (Map.Entry<Integer, Node> entry : world.nodes.entrySet()) {
            if (entry.getKey() % 3 == worker) {
                Node node = entry.getValue();
                entry.setValue(node.with(0.0, node.awake).mail(List.of()));
                lost++;
            }
        }
        return lost;
    }

    int recover() {
        state(state != 0);
        if (checkpoint == null) {
            state = 0;
            throw new UnsupportedOperationException();
        }
        world = copy(checkpoint);
        state = 1;
        return world.superstep;
    }

    int stop() {
        state(state != 0);
        state = 0;
        return world.superstep;
    }

    double value(int vertex) {
        argument(vertex >= 0 && vertex <= 11);
        return node(vertex).value;
    }

    double message(int vertex, int i) {
        argument(vertex >= 0 && vertex <= 11);
        List<Double> messages = node(vertex).messages;
        if (state == 0 || i < 0 || i >= messages.size()) {
            throw new IndexOutOfBoundsException();
        }
        return messages.get(i);
    }

    double aggregate() {
        return world.aggregate;
    }

    int about(int vertex, int what) {
        argument(vertex >= 0 && vertex <= 11 && what >= 0 && what <= 14);
        Node node = node(vertex);
        if (what == 0) {
            return node.edges.size();
        }
        if (what == 1) {
            return state == 0 ? 0 : node.messages.size();
        }
        if (what == 2) {
            return state != 0 && node.awake ? 1 : 0;
        }
        List<Integer> targets = new ArrayList<>(node.edges.keySet());
        return what - 3 < targets.size() ? targets.get(what - 3) : -1;
    }

    int count(int what) {
        argument(what >= 0 && what <= 4);
        int mail = state == 0 ? 0 : world.nodes.values().stream().mapToInt(node -> node.messages.size()).sum();
        return new int[] {state, world.superstep, world.nodes.size(), checkpoint == null ? 0 : 1, mail}[what];
    }

    private World next() throws Fails {
        TreeMap<Integer, Node> nodes = new TreeMap<>();
        List<Integer> removed = new ArrayList<>();
        List<Letter> letters = new ArrayList<>();
        List<Double> offers = new ArrayList<>();
        for (Map.Entry<Integer, Node> entry : world.nodes.entrySet()) {
            Node node = entry.getValue();
            if (node.awake || !node.messages.isEmpty()) {
                node = compute(entry.getKey(), node, letters, offers);
            }
            if (node == null) {
                removed.add(entry.getKey());
            } else {
                nodes.put(entry.getKey(), node);
            }
        }
        for (Map.Entry<Integer, Node> entry : nodes.entrySet()) {
            Map<Integer, Double> edges = new LinkedHashMap<>(entry.getValue().edges);
            edges.keySet().removeAll(removed);
            Node node = entry.getValue();
            entry.setValue(new Node(node.value, edges, node.awake, mailFor(entry.getKey(), letters)));
        }
        return new World(nodes, world.superstep + 1, aggregateOf(offers));
    }

    /** The vertex after its program, or null if it is removed. */
    private Node compute(int v, Node node, List<Letter> letters, List<Double> offers) throws Fails {
        int t = world.superstep;
        double n = world.nodes.size();
        List<Double> m = node.messages;
        switch (program) {
            case 0: {
                double value = t == 0 ? 1.0 / n : 0.15 / n + 0.85 * sum(m);
                offers.add(value);
                if (t < number) {
                    node.edges.keySet().forEach(to -> letters.add(new Letter(v, to, value / node.edges.size())));
                }
                return node.with(value, t < number);
            }
            case 1: {
                List<Double> reached = new ArrayList<>(m);
                if (t == 0 && v == number) {
                    reached.add(0.0);
                }
                double least = reached.stream().mapToDouble(x -> x).min().orElse(1000000.0);
                double old = t == 0 ? 1000000.0 : node.value;
                if (!(least < old)) {
                    return node.with(old, false);
                }
                offers.add(least);
                for (Map.Entry<Integer, Double> edge : node.edges.entrySet()) {
                    letters.add(new Letter(v, edge.getKey(), least + edge.getValue()));
                    if (least + edge.getValue() > 1500.0) {
                        throw new Fails();
                    }
                }
                return node.with(least, false);
            }
            case 2: {
                double most = Math.max(node.value, m.stream().mapToDouble(x -> x).max().orElse(node.value));
                if (t == 0 || most > node.value) {
                    node.edges.keySet().forEach(to -> letters.add(new Letter(v, to, most)));
                }
                offers.add(most);
                return node.with(most, false);
            }
            default: {
                if (t % 2 == 0) {
                    node.edges.keySet().forEach(to -> letters.add(new Letter(v, to, 1.0)));
                    return node.with(node.value, true);
                }
                if (sum(m) < number) {
                    offers.add(1.0);
                    return null;
                }
                return node.with(sum(m), world.aggregate != 0.0);
            }
        }
    }

    private List<Double> mailFor(int v, List<Letter> letters) {
        List<Double> mail = new ArrayList<>();
        if (!combines) {
            letters.stream().filter(letter -> letter.to == v).forEach(letter -> mail.add(letter.x));
            return mail;
        }
        for (int worker = 0; worker < 3; worker++) {
            int on = worker;
            letters.stream().filter(letter -> letter.to == v && letter.from % 3 == on).map(Letter::x)
                    .reduce((a, b) -> program == 1 ? Math.min(a, b) : program == 2 ? Math.max(a, b) : a + b)
                    .ifPresent(mail::add);
        }
        return mail;
    }

    private double aggregateOf(List<Double> offers) {
        switch (program) {
            case 0:
                return sum(offers);
            case 1:
                return offers.stream().mapToDouble(x -> x).min().orElse(1000000.0);
            case 2:
                return offers.stream().mapToDouble(x -> x).max().orElse(0.0);
            default:
                return world.superstep % 2 == 0 ? world.aggregate : sum(offers);
        }
    }

    /** Not a stream's sum, which is free to add in another order. */
    private static double sum(List<Double> all) {
        double sum = 0.0;
        for (double x : all) {
            sum += x;
        }
        return sum;
    }

    private static World copy(World old) {
        TreeMap<Integer, Node> nodes = new TreeMap<>();
        old.nodes.forEach((v, node) -> nodes.put(v,
                new Node(node.value, new LinkedHashMap<>(node.edges), node.awake, List.copyOf(node.messages))));
        return new World(nodes, old.superstep, old.aggregate);
    }

    private Node node(int vertex) {
        Node node = world.nodes.get(vertex);
        if (node == null) {
            throw new NoSuchElementException();
        }
        return node;
    }

    private static void argument(boolean fits) {
        if (!fits) {
            throw new IllegalArgumentException();
        }
    }

    private static void state(boolean fits) {
        if (!fits) {
            throw new IllegalStateException();
        }
    }
}
