/** Promise 6 with program 0. */
public final class RankTest {
    private static final Check check = new Check();

    public static void main(String[] args) {
        sharesItsValue();
        staysAwakeWithoutEdges();
        sleepsAtOnceWithNumberZero();
        combinesByWorkers();
        check.end();
    }

    private static void sharesItsValue() {
        PulseGraph x = Graphs.link(Graphs.of(0, 1, 2, 3), 0, 1, 0, 2, 1, 2, 2, 0, 3, 2);
        x.start(0, 2, false);
        x.step(1);
        check.same("value(3)", x.value(3), 0.25);
        check.same("message(1, 0)", x.message(1, 0), 0.125);
        check.same("about(2, 1)", x.about(2, 1), 3);
        check.same("message(2, 0)", x.message(2, 0), 0.125);
        check.same("message(2, 1)", x.message(2, 1), 0.25);
        check.same("message(2, 2)", x.message(2, 2), 0.25);
        check.same("aggregate()", x.aggregate(), 1.0);
        x.step(1);
        double two = 0.15 / 4 + 0.85 * (0.125 + 0.25 + 0.25);
        check.same("value(2)", x.value(2), two);
        check.same("value(3): no messages", x.value(3), 0.15 / 4);
        check.same("message(0, 0)", x.message(0, 0), two);
        double zero = 0.15 / 4 + 0.85 * 0.25;
        double one = 0.15 / 4 + 0.85 * 0.125;
        check.same("aggregate()", x.aggregate(), zero + one + two + 0.15 / 4);
        check.same("step(10): one step more, without sending", x.step(10), 1);
        check.same("value(0)", x.value(0), 0.15 / 4 + 0.85 * two);
        check.same("count(0)", x.count(0), PulseGraph.IDLE);
    }

    private static void staysAwakeWithoutEdges() {
        PulseGraph x = Graphs.of(4);
        x.start(0, 2, false);
        x.step(1);
        check.same("about(4, 2)", x.about(4, 2), 1);
        check.same("value(4)", x.value(4), 1.0);
        x.step(1);
        check.same("value(4)", x.value(4), 0.15);
        check.same("about(4, 2)", x.about(4, 2), 1);
        check.same("step(10)", x.step(10), 1);
        check.same("count(1)", x.count(1), 3);
    }

    private static void sleepsAtOnceWithNumberZero() {
        PulseGraph x = Graphs.ring();
        x.start(0, 0, false);
        check.same("step(10)", x.step(10), 1);
        check.same("value(2)", x.value(2), 1.0 / 3);
        check.same("aggregate()", x.aggregate(), 1.0 / 3 + 1.0 / 3 + 1.0 / 3);
    }

    private static void combinesByWorkers() {
        PulseGraph x = Graphs.link(Graphs.of(0, 1, 2, 4, 5, 7), 1, 0, 2, 0, 4, 0, 5, 0, 7, 0, 7, 1);
        x.start(0, 3, true);
        x.step(1);
        double part = 1.0 / 6;
        check.same("about(0, 1): two workers sent", x.about(0, 1), 2);
        check.same("message(0, 0): of worker 1", x.message(0, 0), part + part + part / 2);
        check.same("message(0, 1): of worker 2", x.message(0, 1), part + part);
        x.step(1);
        check.same("value(0)", x.value(0), 0.15 / 6 + 0.85 * ((part + part + part / 2) + (part + part)));
    }
}
