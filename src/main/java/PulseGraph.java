import java.util.NoSuchElementException;

/** Graphs whose vertices compute in common steps; the document DOC.md says what each call promises. */
public final class PulseGraph {
    public static final int IDLE = 0;
    public static final int RUNNING = 1;
    public static final int BROKEN = 2;

    private static final int VERTICES = 12;
    private static final int WORKERS = 3;

    private static final int RANK = 0;
    private static final int NEAREST = 1;
    private static final int GREATEST = 2;
    private static final int CORE = 3;

    private static final int MOST_VALUE = 100000;
    private static final int MOST_LENGTH = 1000;
    private static final int MOST_NUMBER = 30;
    private static final int MOST_STEPS = 10;
    private static final int FAR = 1000000;
    private static final int MOST_DISTANCE = 1500;

    private static final int FIRST_EDGE = 3;

    private int state;
    private boolean hasCheckpoint;
    private Graph graph;
    private Graph spare;
    private final Graph checkpoint;
    private final Pulse pulse;

    public PulseGraph() {
        state = IDLE;
        hasCheckpoint = false;
        graph = new Graph();
        spare = new Graph();
        checkpoint = new Graph();
        pulse = new Pulse();
    }

    public int vertex(int vertex, double value) throws IllegalArgumentException, IllegalStateException {
        requireRange(vertex, 0, VERTICES - 1);
        requireAmount(value, -MOST_VALUE, MOST_VALUE);
        requireIdle();
        graph.there[vertex] = true;
        graph.values[vertex] = value;
        return graph.countThere();
    }

    public int edge(int from, int to, double length)
            throws IllegalArgumentException, NoSuchElementException, IllegalStateException {
        requireRange(from, 0, VERTICES - 1);
        requireRange(to, 0, VERTICES - 1);
        requireAmount(length, 0, MOST_LENGTH);
        requireThere(from);
        requireThere(to);
        requireIdle();
        graph.join(from, to, length);
        return graph.edgeCounts[from];
    }

    public int remove(int vertex)
            throws IllegalArgumentException, NoSuchElementException, IllegalStateException {
        requireRange(vertex, 0, VERTICES - 1);
        requireThere(vertex);
        requireIdle();
        return graph.drop(vertex);
    }

    public int start(int program, int number, boolean combines)
            throws IllegalArgumentException, IllegalStateException {
        requireRange(program, RANK, CORE);
        requireRange(number, 0, MOST_NUMBER);
        requireIdle();
        requireAnyVertex();
        pulse.choose(program, number, combines);
        graph.wakeAll();
        graph.clearMail();
        graph.superstep = 0;
        graph.aggregate = program == CORE ? 1.0 : 0.0;
        hasCheckpoint = false;
        state = RUNNING;
        return graph.countThere();
    }

    public int step(int n)
            throws IllegalArgumentException, IllegalStateException, UnsupportedOperationException {
        requireRange(n, 1, MOST_STEPS);
        requireRunning();
        int done = 0;
        while (done < n && state == RUNNING) {
            takeStep();
            done++;
        }
        return done;
    }

    public int save() throws IllegalStateException {
        requireRunning();
        checkpoint.copyFrom(graph);
        hasCheckpoint = true;
        return graph.superstep;
    }

    public int lose(int worker) throws IllegalArgumentException, IllegalStateException {
        requireRange(worker, 0, WORKERS - 1);
        requireRunning();
        state = BROKEN;
        return graph.wipe(worker);
    }

    public int recover() throws IllegalStateException, UnsupportedOperationException {
        requireBusy();
        if (!hasCheckpoint) {
            state = IDLE;
            throw new UnsupportedOperationException("there is no checkpoint");
        }
        graph.copyFrom(checkpoint);
        state = RUNNING;
        return graph.superstep;
    }

    public int stop() throws IllegalStateException {
        requireBusy();
        state = IDLE;
        return graph.superstep;
    }

    public double value(int vertex) throws IllegalArgumentException, NoSuchElementException {
        requireRange(vertex, 0, VERTICES - 1);
        requireThere(vertex);
        return graph.values[vertex];
    }

    public double message(int vertex, int i)
            throws IllegalArgumentException, NoSuchElementException, IndexOutOfBoundsException {
        requireRange(vertex, 0, VERTICES - 1);
        requireThere(vertex);
        if (i < 0 || i >= mailFor(vertex)) {
            throw new IndexOutOfBoundsException("there is no such message");
        }
        return graph.mail[vertex * VERTICES + i];
    }

    public double aggregate() {
        return graph.aggregate;
    }

    public int about(int vertex, int what) throws IllegalArgumentException, NoSuchElementException {
        requireRange(vertex, 0, VERTICES - 1);
        requireRange(what, 0, FIRST_EDGE + VERTICES - 1);
        requireThere(vertex);
        switch (what) {
            case 0:
                return graph.edgeCounts[vertex];
            case 1:
                return mailFor(vertex);
            case 2:
                return state != IDLE && graph.awake[vertex] ? 1 : 0;
            default:
                return graph.targetOf(vertex, what - FIRST_EDGE);
        }
    }

    public int count(int what) throws IllegalArgumentException {
        requireRange(what, 0, 4);
        switch (what) {
            case 0:
                return state;
            case 1:
                return graph.superstep;
            case 2:
                return graph.countThere();
            case 3:
                return hasCheckpoint ? 1 : 0;
            default:
                return mailForAll();
        }
    }

    /** The step is worked out on the spare graph, so that one that fails leaves nothing behind. */
    private void takeStep() {
        spare.copyFrom(graph);
        if (!pulse.beat(spare)) {
            state = BROKEN;
            throw new UnsupportedOperationException("a vertex failed");
        }
        Graph before = graph;
        graph = spare;
        spare = before;
        if (graph.isQuiet()) {
            state = IDLE;
        }
    }

    private int mailFor(int vertex) {
        return state == IDLE ? 0 : graph.mailCounts[vertex];
    }

    private int mailForAll() {
        int all = 0;
        for (int v = 0; v < VERTICES; v++) {
            all += mailFor(v);
        }
        return all;
    }

    /** How a program makes one of two messages, and one of two offers. */
    private static double merge(int program, double first, double next) {
        switch (program) {
            case NEAREST:
                return next < first ? next : first;
            case GREATEST:
                return next > first ? next : first;
            default:
                return first + next;
        }
    }

    private static void requireRange(int x, int least, int most) {
        if (x < least || x > most) {
            throw new IllegalArgumentException("a number is out of range");
        }
    }

    /** Asks for what is in range, not for what is out of it: so a NaN is refused too. */
    private static void requireAmount(double x, int least, int most) {
        boolean fits = x >= least && x <= most;
        if (!fits) {
            throw new IllegalArgumentException("an amount is out of range");
        }
    }

    private void requireThere(int vertex) {
        if (!graph.there[vertex]) {
            throw new NoSuchElementException("the vertex is not there");
        }
    }

    private void requireAnyVertex() {
        if (graph.countThere() == 0) {
            throw new IllegalStateException("no vertex is there");
        }
    }

    private void requireIdle() {
        if (state != IDLE) {
            throw new IllegalStateException("the machine is not idle");
        }
    }

    private void requireRunning() {
        if (state != RUNNING) {
            throw new IllegalStateException("the machine is not running");
        }
    }

    private void requireBusy() {
        if (state == IDLE) {
            throw new IllegalStateException("the machine is idle");
        }
    }

    /**
     * All that a checkpoint keeps. Row v of a flat array begins at v * VERTICES; twelve places a
     * row are enough, as a vertex has at most one edge to each and one message from each.
     */
    private static final class Graph {
        final boolean[] there = new boolean[VERTICES];
        final double[] values = new double[VERTICES];
        final int[] edgeCounts = new int[VERTICES];
        final int[] targets = new int[VERTICES * VERTICES];
        final double[] lengths = new double[VERTICES * VERTICES];
        final boolean[] awake = new boolean[VERTICES];
        final int[] mailCounts = new int[VERTICES];
        final double[] mail = new double[VERTICES * VERTICES];
        int superstep = 0;
        double aggregate = 0.0;

        void copyFrom(Graph other) {
            System.arraycopy(other.there, 0, there, 0, VERTICES);
            System.arraycopy(other.values, 0, values, 0, VERTICES);
            System.arraycopy(other.edgeCounts, 0, edgeCounts, 0, VERTICES);
            System.arraycopy(other.targets, 0, targets, 0, VERTICES * VERTICES);
            System.arraycopy(other.lengths, 0, lengths, 0, VERTICES * VERTICES);
            System.arraycopy(other.awake, 0, awake, 0, VERTICES);
            System.arraycopy(other.mailCounts, 0, mailCounts, 0, VERTICES);
            System.arraycopy(other.mail, 0, mail, 0, VERTICES * VERTICES);
            superstep = other.superstep;
            aggregate = other.aggregate;
        }

        int countThere() {
            int all = 0;
            for (int v = 0; v < VERTICES; v++) {
                if (there[v]) {
                    all++;
                }
            }
            return all;
        }

        void wakeAll() {
            for (int v = 0; v < VERTICES; v++) {
                awake[v] = there[v];
            }
        }

        void clearMail() {
            for (int v = 0; v < VERTICES; v++) {
                mailCounts[v] = 0;
            }
        }

        void addMail(int vertex, double x) {
            mail[vertex * VERTICES + mailCounts[vertex]] = x;
            mailCounts[vertex]++;
        }

        boolean isActive(int vertex) {
            return there[vertex] && (awake[vertex] || mailCounts[vertex] > 0);
        }

        boolean isQuiet() {
            for (int v = 0; v < VERTICES; v++) {
                if (isActive(v)) {
                    return false;
                }
            }
            return true;
        }

        /** The place of the edge in its row, or the row's length if there is no such edge. */
        int placeOf(int from, int to) {
            int place = 0;
            while (place < edgeCounts[from] && targets[from * VERTICES + place] != to) {
                place++;
            }
            return place;
        }

        int targetOf(int from, int place) {
            return place < edgeCounts[from] ? targets[from * VERTICES + place] : -1;
        }

        void join(int from, int to, double length) {
            int place = placeOf(from, to);
            targets[from * VERTICES + place] = to;
            lengths[from * VERTICES + place] = length;
            if (place == edgeCounts[from]) {
                edgeCounts[from]++;
            }
        }

        /** Answers how many edges of other vertices led to the one that goes. */
        int drop(int vertex) {
            there[vertex] = false;
            awake[vertex] = false;
            edgeCounts[vertex] = 0;
            mailCounts[vertex] = 0;
            int cut = 0;
            for (int from = 0; from < VERTICES; from++) {
                if (cutEdge(from, vertex)) {
                    cut++;
                }
            }
            return cut;
        }

        private boolean cutEdge(int from, int to) {
            int place = placeOf(from, to);
            if (place == edgeCounts[from]) {
                return false;
            }
            edgeCounts[from]--;
            int row = from * VERTICES;
            for (int i = place; i < edgeCounts[from]; i++) {
                targets[row + i] = targets[row + i + 1];
                lengths[row + i] = lengths[row + i + 1];
            }
            return true;
        }

        /** Answers how many vertices lay on the worker. */
        int wipe(int worker) {
            int wiped = 0;
            for (int v = worker; v < VERTICES; v += WORKERS) {
                if (there[v]) {
                    values[v] = 0.0;
                    mailCounts[v] = 0;
                    wiped++;
                }
            }
            return wiped;
        }
    }

    /** The messages sent in one step, one place for each sender in the row of each receiver. */
    private static final class Outbox {
        private final boolean[] filled = new boolean[VERTICES * VERTICES];
        private final double[] letters = new double[VERTICES * VERTICES];

        void empty() {
            for (int i = 0; i < VERTICES * VERTICES; i++) {
                filled[i] = false;
            }
        }

        void put(int from, int to, double x) {
            letters[to * VERTICES + from] = x;
            filled[to * VERTICES + from] = true;
        }

        /** Vertices send by rising numbers, so the order of the senders is the order of sending. */
        void deliverEach(Graph graph) {
            for (int to = 0; to < VERTICES; to++) {
                for (int from = 0; from < VERTICES; from++) {
                    if (filled[to * VERTICES + from]) {
                        graph.addMail(to, letters[to * VERTICES + from]);
                    }
                }
            }
        }

        void deliverCombined(Graph graph, int program) {
            for (int to = 0; to < VERTICES; to++) {
                for (int worker = 0; worker < WORKERS; worker++) {
                    deliverOfWorker(graph, program, to, worker);
                }
            }
        }

        private void deliverOfWorker(Graph graph, int program, int to, int worker) {
            boolean any = false;
            double combined = 0.0;
            for (int from = worker; from < VERTICES; from += WORKERS) {
                int i = to * VERTICES + from;
                if (filled[i]) {
                    combined = any ? merge(program, combined, letters[i]) : letters[i];
                    any = true;
                }
            }
            if (any) {
                graph.addMail(to, combined);
            }
        }
    }

    /** The program that was started, and one step of it. */
    private static final class Pulse {
        private final Outbox outbox = new Outbox();
        private final boolean[] removed = new boolean[VERTICES];
        private int program = RANK;
        private int number = 0;
        private boolean combines = false;
        private int present = 0;
        private boolean failed = false;
        private boolean offered = false;
        private double offers = 0.0;

        void choose(int newProgram, int newNumber, boolean newCombines) {
            program = newProgram;
            number = newNumber;
            combines = newCombines;
        }

        /** Does one step on the graph; answers false if it failed, the graph being of no use then. */
        boolean beat(Graph graph) {
            prepare(graph);
            for (int v = 0; v < VERTICES; v++) {
                if (graph.isActive(v)) {
                    graph.awake[v] = true;
                    compute(graph, v);
                }
            }
            if (failed) {
                return false;
            }
            deliver(graph);
            dropRemoved(graph);
            graph.aggregate = newAggregate(graph);
            graph.superstep++;
            return true;
        }

        private void prepare(Graph graph) {
            outbox.empty();
            for (int v = 0; v < VERTICES; v++) {
                removed[v] = false;
            }
            present = graph.countThere();
            failed = false;
            offered = false;
            offers = 0.0;
        }

        private void deliver(Graph graph) {
            graph.clearMail();
            if (combines) {
                outbox.deliverCombined(graph, program);
            } else {
                outbox.deliverEach(graph);
            }
        }

        private void dropRemoved(Graph graph) {
            for (int v = 0; v < VERTICES; v++) {
                if (removed[v]) {
                    graph.drop(v);
                }
            }
        }

        private double newAggregate(Graph graph) {
            if (program == CORE && graph.superstep % 2 == 0) {
                return graph.aggregate;
            }
            if (offered) {
                return offers;
            }
            return program == NEAREST ? FAR : 0.0;
        }

        private void compute(Graph graph, int vertex) {
            switch (program) {
                case RANK:
                    rank(graph, vertex);
                    break;
                case NEAREST:
                    seekNearest(graph, vertex);
                    break;
                case GREATEST:
                    seekGreatest(graph, vertex);
                    break;
                default:
                    keepCore(graph, vertex);
                    break;
            }
        }

        private void rank(Graph graph, int vertex) {
            if (present > 0) {
                graph.values[vertex] = graph.superstep == 0
                        ? 1.0 / present
                        : 0.15 / present + 0.85 * mergeMail(graph, vertex, 0.0);
            }
            offer(graph.values[vertex]);
            if (graph.superstep >= number) {
                graph.awake[vertex] = false;
            } else if (graph.edgeCounts[vertex] > 0) {
                sendToAll(graph, vertex, graph.values[vertex] / graph.edgeCounts[vertex]);
            }
        }

        private void seekNearest(Graph graph, int vertex) {
            if (graph.superstep == 0) {
                graph.values[vertex] = FAR;
            }
            boolean isSource = graph.superstep == 0 && vertex == number;
            double least = mergeMail(graph, vertex, isSource ? 0.0 : FAR);
            if (least < graph.values[vertex]) {
                graph.values[vertex] = least;
                offer(least);
                sendDistances(graph, vertex);
            }
            graph.awake[vertex] = false;
        }

        private void sendDistances(Graph graph, int vertex) {
            for (int i = 0; i < graph.edgeCounts[vertex]; i++) {
                double distance = graph.values[vertex] + graph.lengths[vertex * VERTICES + i];
                if (distance > MOST_DISTANCE) {
                    failed = true;
                }
                outbox.put(vertex, graph.targets[vertex * VERTICES + i], distance);
            }
        }

        private void seekGreatest(Graph graph, int vertex) {
            double before = graph.values[vertex];
            double greatest = mergeMail(graph, vertex, before);
            graph.values[vertex] = greatest;
            if (greatest > before || graph.superstep == 0) {
                sendToAll(graph, vertex, greatest);
            }
            offer(greatest);
            graph.awake[vertex] = false;
        }

        private void keepCore(Graph graph, int vertex) {
            if (graph.superstep % 2 == 0) {
                sendToAll(graph, vertex, 1.0);
                return;
            }
            double sum = mergeMail(graph, vertex, 0.0);
            if (sum < number) {
                removed[vertex] = true;
                offer(1.0);
            } else {
                graph.values[vertex] = sum;
            }
            if (graph.aggregate == 0.0) {
                graph.awake[vertex] = false;
            }
        }

        /** The sum, the least or the greatest of the messages, as the program merges them. */
        private double mergeMail(Graph graph, int vertex, double from) {
            double merged = from;
            for (int i = 0; i < graph.mailCounts[vertex]; i++) {
                merged = merge(program, merged, graph.mail[vertex * VERTICES + i]);
            }
            return merged;
        }

        private void offer(double x) {
            offers = offered ? merge(program, offers, x) : x;
            offered = true;
        }

        private void sendToAll(Graph graph, int vertex, double x) {
            for (int i = 0; i < graph.edgeCounts[vertex]; i++) {
                outbox.put(vertex, graph.targets[vertex * VERTICES + i], x);
            }
        }
    }
}
