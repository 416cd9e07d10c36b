@Part("What it is")
public final class LifeTest {
    private static final int CALLS = 512;

    public static void main(String[] args) throws Exception {
        Sentences.run(LifeTest.class);
    }

    /** Each program goes on from what the one before it left; the answers are worked out by hand. */
    @Sentence("Graphs whose vertices compute in common steps: messages along edges, four programs, combining, "
            + "an aggregate, removal of vertices, workers that are lost, and checkpoints.")
    static void doesAllOfItInOneLife(Check check) {
        PulseGraph x = triangleWithTail();
        check.same("start(1, 0, true)", x.start(1, 0, true), 4);
        check.same("step(10) of NEAREST", x.step(10), 5);
        values(check, x, 0.0, 4.0, 5.0, 7.0);
        check.same("start(2, 0, false)", x.start(2, 0, false), 4);
        check.same("step(10) of GREATEST", x.step(10), 4);
        values(check, x, 7.0, 7.0, 7.0, 7.0);
        check.same("aggregate()", x.aggregate(), 7.0);
        ranksThoughAWorkerIsLost(check, x);
        check.same("start(3, 2, true)", x.start(3, 2, true), 4);
        check.same("step(10) of CORE", x.step(10), 6);
        check.same("count(2): the tail is removed", x.count(2), 3);
        values(check, x, 2.0, 2.0, 2.0);
    }

    private static PulseGraph triangleWithTail() {
        PulseGraph x = Graphs.of(0, 1, 2, 3);
        double[][] edges = {{0, 1, 4.0}, {1, 2, 1.0}, {0, 2, 8.0}, {2, 3, 2.0}};
        for (double[] edge : edges) {
            x.edge((int) edge[0], (int) edge[1], edge[2]);
            x.edge((int) edge[1], (int) edge[0], edge[2]);
        }
        return x;
    }

    private static void ranksThoughAWorkerIsLost(Check check, PulseGraph x) {
        check.same("start(0, 2, false)", x.start(0, 2, false), 4);
        check.same("step(1) of RANK", x.step(1), 1);
        check.same("save()", x.save(), 1);
        x.step(1);
        check.same("lose(2)", x.lose(2), 1);
        check.same("value(2): lost", x.value(2), 0.0);
        check.same("recover()", x.recover(), 1);
        check.same("value(2): back", x.value(2), 0.25);
        check.same("step(10)", x.step(10), 2);
        double two = 0.15 / 4 + 0.85 * (0.125 + 0.125 + 0.25);
        check.same("value(3)", x.value(3), 0.15 / 4 + 0.85 * (two / 3));
        check.same("aggregate()", x.aggregate(), x.value(0) + x.value(1) + x.value(2) + x.value(3));
    }

    private static void values(Check check, PulseGraph x, double... due) {
        for (int v = 0; v < due.length; v++) {
            check.same("value(" + v + ")", x.value(v), due[v]);
        }
    }

    @Sentence("An object is used for at most 512 calls after it has been made; what later calls answer is free.")
    static void answersUpToTheLastCall(Check check) {
        PulseGraph x = new PulseGraph();
        x.vertex(0, 0.0);
        x.edge(0, 0, 1.0);
        for (int call = 2; call < CALLS; call += 3) {
            check.same("start(0, 9, false) as call " + call, x.start(0, 9, false), 1);
            check.same("step(10)", x.step(10), 10);
            check.same("count(1)", x.count(1), 10);
        }
    }

    @Sentence("An object is used for at most 512 calls after it has been made; what later calls answer is free.")
    static void refusesUpToTheLastCall(Check check) {
        PulseGraph x = new PulseGraph();
        for (int call = 0; call < CALLS - 1; call++) {
            check.fails("step(1)", IllegalStateException.class, () -> x.step(1));
        }
        check.same("vertex(0, 1.0) as the last call", x.vertex(0, 1.0), 1);
    }

    @Sentence("An object is used for at most 512 calls after it has been made; what later calls answer is free.")
    static void goesBackAndForthUpToTheLastCall(Check check) {
        PulseGraph x = Graphs.running();
        x.save();
        for (int call = 9; call + 3 <= CALLS; call += 3) {
            check.same("step(2)", x.step(2), 2);
            check.same("lose(1)", x.lose(1), 1);
            check.same("recover()", x.recover(), 1);
        }
    }
}
