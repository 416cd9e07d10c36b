@Part("Promise 6: step")
public final class StepTest {
    public static void main(String[] args) throws Exception {
        Sentences.run(StepTest.class);
    }

    @Sentence("n 1 .. 10.")
    static void takesTheLeastAndTheGreatest(Check check) {
        PulseGraph x = Graphs.ring();
        x.start(0, 30, false);
        check.same("step(1)", x.step(1), 1);
        check.same("count(1)", x.count(1), 1);
        check.same("step(10)", x.step(10), 10);
        check.same("count(1)", x.count(1), 11);
    }

    @Sentence("n 1 .. 10.")
    static void refusesWhatIsOutOfRange(Check check) {
        PulseGraph x = Graphs.running();
        PulseGraph idle = Graphs.ring();
        PulseGraph broken = Graphs.lost();
        for (int n : Graphs.outside(1, 10)) {
            check.refuses(x, "step(" + n + ")", IllegalArgumentException.class, () -> x.step(n));
            check.refuses(idle, "step(" + n + ") idle", IllegalArgumentException.class, () -> idle.step(n));
            check.refuses(broken, "step(" + n + ") broken", IllegalArgumentException.class, () -> broken.step(n));
        }
    }

    @Sentence("It is not RUNNING: IllegalStateException.")
    static void refusesWhileIdle(Check check) {
        PulseGraph x = Graphs.ring();
        check.refuses(x, "step(1) before", IllegalStateException.class, () -> x.step(1));
        x.start(0, 0, false);
        x.step(1);
        check.refuses(x, "step(1) at the end", IllegalStateException.class, () -> x.step(1));
        x.start(0, 5, false);
        x.stop();
        check.refuses(x, "step(10) stopped", IllegalStateException.class, () -> x.step(10));
    }

    @Sentence("It is not RUNNING: IllegalStateException.")
    static void refusesWhileBroken(Check check) {
        PulseGraph x = Graphs.lost();
        check.refuses(x, "step(1) lost", IllegalStateException.class, () -> x.step(1));
        PulseGraph y = Graphs.failed();
        check.refuses(y, "step(1) failed", IllegalStateException.class, () -> y.step(1));
        check.refuses(y, "step(1) failed, again", IllegalStateException.class, () -> y.step(1));
    }

    @Sentence("Up to n STEPS, as long as it is RUNNING.")
    static void endsWhenItIsIdle(Check check) {
        PulseGraph x = Graphs.ring();
        x.start(0, 3, false);
        check.same("step(10)", x.step(10), 4);
        check.same("count(0)", x.count(0), PulseGraph.IDLE);
        check.same("count(1)", x.count(1), 4);
    }

    @Sentence("Up to n STEPS, as long as it is RUNNING.")
    static void endsAfterNSteps(Check check) {
        PulseGraph x = Graphs.ring();
        x.start(0, 3, false);
        check.same("step(3)", x.step(3), 3);
        check.same("count(0)", x.count(0), PulseGraph.RUNNING);
        check.same("step(1)", x.step(1), 1);
        check.same("count(0)", x.count(0), PulseGraph.IDLE);
    }

    @Sentence("Up to n STEPS, as long as it is RUNNING.")
    static void areTheSameOneByOne(Check check) {
        PulseGraph x = Graphs.link(Graphs.of(0, 1, 2, 3), 0, 1, 0, 2, 1, 2, 2, 0, 3, 2);
        PulseGraph y = Graphs.link(Graphs.of(0, 1, 2, 3), 0, 1, 0, 2, 1, 2, 2, 0, 3, 2);
        x.start(0, 9, true);
        y.start(0, 9, true);
        x.step(7);
        for (int i = 0; i < 7; i++) {
            y.step(1);
        }
        check.that("seven at once are as seven one by one", Graphs.seen(x).equals(Graphs.seen(y)));
    }

    @Sentence("One FAILS: UnsupportedOperationException (those before it stay done).")
    static void failsInALaterStep(Check check) {
        PulseGraph x = Graphs.failing();
        check.fails("step(10)", UnsupportedOperationException.class, () -> x.step(10));
        check.same("count(0)", x.count(0), PulseGraph.BROKEN);
        check.same("count(1)", x.count(1), 1);
        check.same("value(0): of the step before", x.value(0), 0.0);
        check.same("message(1, 0): of the step before", x.message(1, 0), 1000.0);
        check.same("about(0, 2): of the step before", x.about(0, 2), 0);
    }

    @Sentence("One FAILS: UnsupportedOperationException (those before it stay done).")
    static void failsInTheLastOfN(Check check) {
        PulseGraph x = Graphs.failing();
        check.same("step(1)", x.step(1), 1);
        String before = Graphs.seen(x);
        check.fails("step(1)", UnsupportedOperationException.class, () -> x.step(1));
        check.same("count(0)", x.count(0), PulseGraph.BROKEN);
        check.that("nothing but that it is broken is new",
                Graphs.seen(x).substring(1).equals(before.substring(1)));
    }

    @Sentence("One FAILS: UnsupportedOperationException (those before it stay done).")
    static void doesNotReachTheStepThatFails(Check check) {
        PulseGraph x = Graphs.of(0, 1, 2, 3);
        x.edge(0, 1, 700.0);
        x.edge(1, 2, 700.0);
        x.edge(2, 3, 700.0);
        x.start(1, 0, true);
        check.same("step(2)", x.step(2), 2);
        check.same("count(0)", x.count(0), PulseGraph.RUNNING);
        check.fails("step(2)", UnsupportedOperationException.class, () -> x.step(2));
        check.same("count(1)", x.count(1), 2);
        check.same("value(2): as before", x.value(2), 1000000.0);
    }

    @Sentence("Answers how many were done.")
    static void countsFromOneToTen(Check check) {
        for (int number = 0; number < 12; number++) {
            PulseGraph x = Graphs.of(3);
            x.start(0, number, false);
            check.same("step(10) of " + (number + 1), x.step(10), number < 10 ? number + 1 : 10);
        }
    }
}
