@Part("Promise 10: stop")
public final class StopTest {
    public static void main(String[] args) throws Exception {
        Sentences.run(StopTest.class);
    }

    @Sentence("It is IDLE: IllegalStateException.")
    static void refusesWhileIdle(Check check) {
        PulseGraph x = Graphs.ring();
        check.refuses(x, "stop() before", IllegalStateException.class, () -> x.stop());
        x.start(0, 0, false);
        x.step(1);
        check.refuses(x, "stop() at the end", IllegalStateException.class, () -> x.stop());
        x.start(0, 5, false);
        x.stop();
        check.refuses(x, "stop() again", IllegalStateException.class, () -> x.stop());
    }

    @Sentence("It is IDLE; VALUES and EDGES stay.")
    static void stopsRunning(Check check) {
        PulseGraph x = Graphs.running();
        check.same("stop()", x.stop(), 1);
        check.same("count(0)", x.count(0), PulseGraph.IDLE);
        check.same("value(1)", x.value(1), 1.0 / 3);
        check.same("about(1, 0)", x.about(1, 0), 1);
        check.same("about(1, 3)", x.about(1, 3), 2);
        check.same("about(1, 1)", x.about(1, 1), 0);
        check.same("about(1, 2)", x.about(1, 2), 0);
        check.same("count(2)", x.count(2), 3);
        check.same("count(4)", x.count(4), 0);
        check.same("aggregate()", x.aggregate(), 1.0);
        check.refuses(x, "step(1)", IllegalStateException.class, () -> x.step(1));
    }

    @Sentence("It is IDLE; VALUES and EDGES stay.")
    static void keepsLengths(Check check) {
        PulseGraph x = Graphs.failing();
        x.stop();
        x.start(1, 1, false);
        x.step(1);
        check.same("message(2, 0)", x.message(2, 0), 501.0);
    }

    @Sentence("It is IDLE; VALUES and EDGES stay.")
    static void stopsBroken(Check check) {
        PulseGraph x = Graphs.failed();
        check.same("stop() failed", x.stop(), 1);
        check.same("count(0)", x.count(0), PulseGraph.IDLE);
        check.same("value(1)", x.value(1), 1000000.0);
        PulseGraph y = Graphs.lost();
        check.same("stop() lost", y.stop(), 1);
        check.same("count(0)", y.count(0), PulseGraph.IDLE);
        check.same("value(1): lost for good", y.value(1), 0.0);
        check.same("value(2)", y.value(2), 1.0 / 3);
    }

    @Sentence("Answers SUPERSTEP.")
    static void answersTheSuperstep(Check check) {
        PulseGraph x = Graphs.ring();
        for (int steps = 0; steps < 10; steps++) {
            x.start(0, 30, false);
            if (steps > 0) {
                x.step(steps);
            }
            check.same("stop()", x.stop(), steps);
            check.same("count(1)", x.count(1), steps);
        }
    }
}
