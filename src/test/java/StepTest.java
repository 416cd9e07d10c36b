/** Promise 6: the call itself; the four programs have tests of their own. */
public final class StepTest {
    private static final Check check = new Check();

    public static void main(String[] args) {
        countsSteps();
        endsWhenAllIsQuiet();
        wakesByMessages();
        failsAndLeavesNothingOfTheStep();
        refusesWhatIsWrong();
        check.end();
    }

    private static void countsSteps() {
        PulseGraph x = Graphs.ring();
        x.start(0, 30, false);
        check.same("step(1)", x.step(1), 1);
        check.same("step(10)", x.step(10), 10);
        check.same("count(1)", x.count(1), 11);
        check.same("step(10)", x.step(10), 10);
        check.same("step(10): only to the end", x.step(10), 10);
        check.same("count(0) as steps ended with the last", x.count(0), PulseGraph.IDLE);
        check.same("count(1)", x.count(1), 31);
    }

    private static void endsWhenAllIsQuiet() {
        PulseGraph x = Graphs.ring();
        x.start(0, 3, false);
        check.same("step(10)", x.step(10), 4);
        check.same("count(0)", x.count(0), PulseGraph.IDLE);
        check.same("about(0, 2)", x.about(0, 2), 0);
        check.refuses("step(1) idle", IllegalStateException.class, () -> x.step(1));
    }

    private static void wakesByMessages() {
        PulseGraph x = Graphs.link(Graphs.of(0, 1, 2), 0, 1, 1, 2);
        x.start(1, 0, false);
        x.step(1);
        check.same("about(0, 2): asleep", x.about(0, 2), 0);
        check.same("about(1, 2): asleep with a message", x.about(1, 2), 0);
        check.same("about(1, 1)", x.about(1, 1), 1);
        check.same("count(0): a message keeps it running", x.count(0), PulseGraph.RUNNING);
        x.step(1);
        check.same("value(1): a message woke it", x.value(1), 1.0);
        check.same("about(1, 1): those had before are gone", x.about(1, 1), 0);
        check.same("value(2): a message is had only later", x.value(2), 1000000.0);
        x.step(1);
        check.same("value(2)", x.value(2), 2.0);
    }

    private static void failsAndLeavesNothingOfTheStep() {
        PulseGraph x = Graphs.failing();
        check.refuses("step(10)", UnsupportedOperationException.class, () -> x.step(10));
        check.same("count(0)", x.count(0), PulseGraph.BROKEN);
        check.same("count(1): the step before stays done", x.count(1), 1);
        check.same("value(0)", x.value(0), 0.0);
        check.same("value(1): as before the step", x.value(1), 1000000.0);
        check.same("message(1, 0): as before the step", x.message(1, 0), 1000.0);
        check.same("about(2, 1): nothing was sent", x.about(2, 1), 0);
        check.same("about(1, 2): asleep as before", x.about(1, 2), 0);
        check.same("aggregate(): as before the step", x.aggregate(), 0.0);
        check.refuses("step(1) broken", IllegalStateException.class, () -> x.step(1));
    }

    private static void refusesWhatIsWrong() {
        PulseGraph x = Graphs.ring();
        check.refuses("step(1) idle", IllegalStateException.class, () -> x.step(1));
        int[] numbers = {0, 11, -1, Integer.MAX_VALUE};
        for (int n : numbers) {
            check.refuses("step(" + n + ") idle", IllegalArgumentException.class, () -> x.step(n));
        }
        x.start(0, 5, false);
        for (int n : numbers) {
            check.refuses("step(" + n + ") running", IllegalArgumentException.class, () -> x.step(n));
        }
        check.same("count(1)", x.count(1), 0);
    }
}
