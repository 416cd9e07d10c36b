/** Graphs that several tests begin with, all that can be seen of one, and numbers out of range. */
final class Graphs {
    private Graphs() {
    }

    /** Vertices with the value 0.0. */
    static PulseGraph of(int... vertices) {
        PulseGraph x = new PulseGraph();
        for (int v : vertices) {
            x.vertex(v, 0.0);
        }
        return x;
    }

    /** All twelve vertices, with the value 0.0. */
    static PulseGraph full() {
        return of(0, 1, 2, 3, 4, 5, 6, 7, 8, 9, 10, 11);
    }

    /** Adds edges of the length 1.0, written as from, to, from, to .. */
    static PulseGraph link(PulseGraph x, int... ends) {
        for (int i = 0; i < ends.length; i += 2) {
            x.edge(ends[i], ends[i + 1], 1.0);
        }
        return x;
    }

    /** Vertices 0, 1, 2, each with an edge to the next and the last to the first. */
    static PulseGraph ring() {
        return link(of(0, 1, 2), 0, 1, 1, 2, 2, 0);
    }

    /** A ring on which RANK has done one step of ten. */
    static PulseGraph running() {
        PulseGraph x = ring();
        x.start(0, 9, false);
        x.step(1);
        return x;
    }

    /** The same, broken as worker 1 was lost. */
    static PulseGraph lost() {
        PulseGraph x = running();
        x.lose(1);
        return x;
    }

    /** A path 0, 1, 2 on which NEAREST from 0 was started, and fails in superstep 1. */
    static PulseGraph failing() {
        PulseGraph x = of(0, 1, 2);
        x.edge(0, 1, 1000.0);
        x.edge(1, 2, 501.0);
        x.start(1, 0, false);
        return x;
    }

    /** The same, broken as its step failed. */
    static PulseGraph failed() {
        PulseGraph x = failing();
        Check.outcome(() -> x.step(10));
        return x;
    }

    /** Just outside of what is in range, and as far outside as can be. */
    static int[] outside(int least, int most) {
        return new int[] {least - 1, most + 1, Integer.MIN_VALUE, Integer.MAX_VALUE};
    }

    static double[] outside(double least, double most) {
        return new double[] {Math.nextDown(least), Math.nextUp(most), -Double.MAX_VALUE, Double.MAX_VALUE,
            Double.NEGATIVE_INFINITY, Double.POSITIVE_INFINITY, Double.NaN};
    }

    /**
     * What the calls that change nothing answer, lengths excepted, which no call tells. It asks no
     * more than it must, as an object has only 512 calls.
     */
    static String seen(PulseGraph x) {
        StringBuilder text = new StringBuilder();
        for (int what = 0; what < 5; what++) {
            text.append(x.count(what)).append(' ');
        }
        text.append(x.aggregate());
        for (int vertex = 0; vertex < 12; vertex++) {
            int v = vertex;
            String value = Check.outcome(() -> x.value(v));
            if (!value.startsWith("throws.")) {
                text.append("\n").append(v).append(": ").append(value).append(seenOf(x, v));
            }
        }
        return text.toString();
    }

    private static String seenOf(PulseGraph x, int vertex) {
        StringBuilder text = new StringBuilder(", edges");
        int edges = x.about(vertex, 0);
        for (int i = 0; i < edges; i++) {
            text.append(' ').append(x.about(vertex, 3 + i));
        }
        text.append(", messages");
        int messages = x.about(vertex, 1);
        for (int i = 0; i < messages; i++) {
            text.append(' ').append(x.message(vertex, i));
        }
        return text.append(", awake ").append(x.about(vertex, 2)).toString();
    }
}
