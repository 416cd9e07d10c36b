/** Promise 10. */
public final class StopTest {
    private static final Check check = new Check();

    public static void main(String[] args) {
        stopsRunning();
        stopsBroken();
        check.end();
    }

    private static void stopsRunning() {
        PulseGraph x = Graphs.ring();
        check.refuses("stop() idle", IllegalStateException.class, () -> x.stop());
        x.start(0, 9, false);
        x.step(3);
        double value = x.value(1);
        double aggregate = x.aggregate();
        check.same("stop()", x.stop(), 3);
        check.same("count(0)", x.count(0), PulseGraph.IDLE);
        check.same("count(1)", x.count(1), 3);
        check.same("value(1)", x.value(1), value);
        check.same("aggregate()", x.aggregate(), aggregate);
        check.same("about(1, 3)", x.about(1, 3), 2);
        check.same("about(1, 1)", x.about(1, 1), 0);
        check.same("about(1, 2)", x.about(1, 2), 0);
        check.same("count(4)", x.count(4), 0);
        check.refuses("stop() again", IllegalStateException.class, () -> x.stop());
        check.refuses("step(1)", IllegalStateException.class, () -> x.step(1));
    }

    private static void stopsBroken() {
        PulseGraph x = Graphs.failing();
        check.refuses("step(2)", UnsupportedOperationException.class, () -> x.step(2));
        check.same("stop()", x.stop(), 1);
        check.same("count(0)", x.count(0), PulseGraph.IDLE);
        check.same("value(1)", x.value(1), 1000000.0);
    }
}
