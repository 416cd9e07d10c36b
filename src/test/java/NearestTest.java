/** Promise 6 with program 1. */
public final class NearestTest {
    private static final Check check = new Check();

    public static void main(String[] args) {
        findsTheNearest();
        offersTheLeast();
        hasNoSource();
        failsAboveTheLimitOnly();
        failsOnlyBySending();
        combinesByWorkers();
        check.end();
    }

    private static void findsTheNearest() {
        PulseGraph x = Graphs.of(0, 1, 2, 3);
        x.edge(2, 0, 10.0);
        x.edge(2, 1, 3.0);
        x.edge(1, 0, 4.0);
        x.edge(0, 2, 1.0);
        x.start(1, 2, false);
        x.step(1);
        check.same("value(2)", x.value(2), 0.0);
        check.same("value(0)", x.value(0), 1000000.0);
        check.same("message(0, 0)", x.message(0, 0), 10.0);
        check.same("step(10)", x.step(10), 3);
        check.same("value(0)", x.value(0), 7.0);
        check.same("value(1)", x.value(1), 3.0);
        check.same("value(2): not below", x.value(2), 0.0);
        check.same("value(3): not reached", x.value(3), 1000000.0);
    }

    private static void offersTheLeast() {
        PulseGraph x = Graphs.of(0, 1, 2);
        x.edge(0, 1, 5.0);
        x.edge(0, 2, 4.0);
        x.edge(2, 0, 1.0);
        x.start(1, 0, false);
        x.step(1);
        check.same("aggregate()", x.aggregate(), 0.0);
        x.step(1);
        check.same("aggregate(): the least of two", x.aggregate(), 4.0);
        x.step(1);
        check.same("aggregate(): without any", x.aggregate(), 1000000.0);
        check.same("count(0)", x.count(0), PulseGraph.IDLE);
    }

    private static void hasNoSource() {
        PulseGraph x = Graphs.ring();
        x.vertex(0, 5.0);
        x.start(1, 12, false);
        check.same("step(10)", x.step(10), 1);
        check.same("value(0)", x.value(0), 1000000.0);
        check.same("aggregate()", x.aggregate(), 1000000.0);
        check.same("count(1)", x.count(1), 1);
    }

    private static void failsAboveTheLimitOnly() {
        PulseGraph x = Graphs.of(0, 1, 2);
        x.edge(0, 1, 1000.0);
        x.edge(1, 2, 500.0);
        x.start(1, 0, false);
        check.same("step(10): 1500.0 is not above", x.step(10), 3);
        check.same("value(2)", x.value(2), 1500.0);
        x.edge(1, 2, 500.5);
        x.start(1, 0, false);
        check.refuses("step(10): 1500.5 is", UnsupportedOperationException.class, () -> x.step(10));
        check.same("count(0)", x.count(0), PulseGraph.BROKEN);
        check.same("count(1)", x.count(1), 1);
    }

    private static void failsOnlyBySending() {
        PulseGraph x = Graphs.of(0, 1, 2, 3);
        x.edge(0, 1, 1000.0);
        x.edge(1, 2, 500.0);
        x.edge(2, 3, 0.0);
        x.edge(3, 0, 0.0);
        x.start(1, 0, false);
        check.same("step(10)", x.step(10), 5);
        check.same("value(3)", x.value(3), 1500.0);
    }

    private static void combinesByWorkers() {
        PulseGraph x = Graphs.of(0, 1, 2, 4, 5, 8);
        x.edge(0, 1, 1.0);
        x.edge(0, 4, 1.0);
        x.edge(0, 2, 1.0);
        x.edge(1, 8, 9.0);
        x.edge(4, 8, 5.0);
        x.edge(2, 8, 7.0);
        x.start(1, 0, true);
        x.step(2);
        check.same("about(8, 1)", x.about(8, 1), 2);
        check.same("message(8, 0): the least of worker 1", x.message(8, 0), 6.0);
        check.same("message(8, 1): of worker 2", x.message(8, 1), 8.0);
        x.step(1);
        check.same("value(8)", x.value(8), 6.0);
    }
}
