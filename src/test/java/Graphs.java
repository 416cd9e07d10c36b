/** Graphs that several tests begin with, and all that can be seen of one. */
final class Graphs {
    private Graphs() {
    }

    /** Vertices with the value 0.0. */
    static PulseGraph of(int... vertices) {
        PulseGraph x = new PulseGraph();
        for (int v : vertices) {
            x.vertex(v, 0.0);
        }
        return x;
    }

    /** Adds edges of the length 1.0, written as from, to, from, to .. */
    static PulseGraph link(PulseGraph x, int... ends) {
        for (int i = 0; i < ends.length; i += 2) {
            x.edge(ends[i], ends[i + 1], 1.0);
        }
        return x;
    }

    /** Vertices 0, 1, 2, each with an edge to the next and the last to the first. */
    static PulseGraph ring() {
        return link(of(0, 1, 2), 0, 1, 1, 2, 2, 0);
    }

    /** A path 0, 1, 2 whose second edge makes NEAREST from 0 fail in superstep 1. */
    static PulseGraph failing() {
        PulseGraph x = of(0, 1, 2);
        x.edge(0, 1, 1000.0);
        x.edge(1, 2, 501.0);
        x.start(1, 0, false);
        return x;
    }

    /** Every answer of the calls that change nothing, lengths excepted, which no call tells. */
    static String seen(PulseGraph x) {
        StringBuilder text = new StringBuilder();
        for (int what = 0; what < 5; what++) {
            text.append(x.count(what)).append(' ');
        }
        text.append(x.aggregate());
        for (int vertex = 0; vertex < 12; vertex++) {
            int v = vertex;
            text.append("\n").append(v).append(": ").append(Check.outcome(() -> x.value(v)));
            for (int entry = 0; entry < 15; entry++) {
                int what = entry;
                text.append(' ').append(Check.outcome(() -> x.about(v, what)));
            }
            for (int place = -1; place < 13; place++) {
                int i = place;
                text.append(' ').append(Check.outcome(() -> x.message(v, i)));
            }
        }
        return text.toString();
    }
}
