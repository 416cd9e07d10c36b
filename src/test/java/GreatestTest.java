/** Promise 6 with program 2. */
public final class GreatestTest {
    private static final Check check = new Check();

    public static void main(String[] args) {
        spreadsTheGreatest();
        keepsNegativeValues();
        combinesByWorkers();
        ordersBySending();
        check.end();
    }

    private static void spreadsTheGreatest() {
        PulseGraph x = Graphs.ring();
        x.vertex(0, 5.0);
        x.vertex(1, 9.0);
        x.vertex(2, 7.0);
        x.start(2, 30, false);
        x.step(1);
        check.same("count(4): all send in superstep 0", x.count(4), 3);
        check.same("message(2, 0)", x.message(2, 0), 9.0);
        check.same("aggregate()", x.aggregate(), 9.0);
        x.step(1);
        check.same("value(0)", x.value(0), 7.0);
        check.same("value(1)", x.value(1), 9.0);
        check.same("about(2, 1): 1 was not raised and is silent", x.about(2, 1), 0);
        check.same("about(1, 1)", x.about(1, 1), 1);
        x.step(1);
        check.same("value(0)", x.value(0), 9.0);
        check.same("step(10)", x.step(10), 1);
        check.same("aggregate(): offered without a rise", x.aggregate(), 9.0);
    }

    private static void keepsNegativeValues() {
        PulseGraph x = Graphs.of(3, 4);
        x.vertex(3, -5.0);
        x.vertex(4, -7.0);
        x.edge(3, 4, 0.0);
        x.start(2, 0, false);
        x.step(1);
        check.same("aggregate()", x.aggregate(), -5.0);
        x.step(1);
        check.same("value(4)", x.value(4), -5.0);
        check.same("count(0)", x.count(0), PulseGraph.IDLE);
    }

    private static void combinesByWorkers() {
        PulseGraph x = Graphs.link(Graphs.of(0, 1, 4, 6), 0, 0, 1, 0, 4, 0, 6, 0);
        x.vertex(0, -1.0);
        x.vertex(1, -4.0);
        x.vertex(4, -3.0);
        x.vertex(6, -2.0);
        x.start(2, 0, true);
        x.step(1);
        check.same("about(0, 1)", x.about(0, 1), 2);
        check.same("message(0, 0): the greatest of worker 0", x.message(0, 0), -1.0);
        check.same("message(0, 1): the greatest of worker 1", x.message(0, 1), -3.0);
    }

    private static void ordersBySending() {
        PulseGraph x = Graphs.link(Graphs.of(1, 2, 3, 6), 6, 3, 3, 3, 2, 3, 1, 3);
        x.vertex(1, 10.0);
        x.vertex(2, 20.0);
        x.vertex(3, 30.0);
        x.vertex(6, 60.0);
        x.start(2, 0, false);
        x.step(1);
        for (int i = 0; i < 3; i++) {
            check.same("message(3, " + i + ")", x.message(3, i), 10.0 * (i + 1));
        }
        check.same("message(3, 3)", x.message(3, 3), 60.0);
        x.stop();
        x.start(2, 0, true);
        x.step(1);
        check.same("message(3, 0): of worker 0", x.message(3, 0), 60.0);
        check.same("message(3, 1): of worker 1", x.message(3, 1), 10.0);
        check.same("message(3, 2): of worker 2", x.message(3, 2), 20.0);
    }
}
