import java.util.NoSuchElementException;

@Part("Promise 9: recover")
public final class RecoverTest {
    public static void main(String[] args) throws Exception {
        Sentences.run(RecoverTest.class);
    }

    @Sentence("It is IDLE: IllegalStateException.")
    static void refusesWhileIdle(Check check) {
        PulseGraph x = Graphs.ring();
        check.refuses(x, "recover() before", IllegalStateException.class, () -> x.recover());
        x.start(0, 0, false);
        x.step(1);
        check.refuses(x, "recover() at the end", IllegalStateException.class, () -> x.recover());
    }

    @Sentence("It is IDLE: IllegalStateException.")
    static void refusesWhileIdleWithACheckpoint(Check check) {
        PulseGraph x = Graphs.running();
        x.save();
        x.step(10);
        check.same("count(0)", x.count(0), PulseGraph.IDLE);
        check.same("count(3): it stays", x.count(3), 1);
        check.refuses(x, "recover() at the end", IllegalStateException.class, () -> x.recover());
        PulseGraph y = Graphs.running();
        y.save();
        y.stop();
        check.refuses(y, "recover() stopped", IllegalStateException.class, () -> y.recover());
    }

    @Sentence("There is no CHECKPOINT: UnsupportedOperationException, and it is IDLE.")
    static void isIdleAfterBroken(Check check) {
        PulseGraph x = Graphs.lost();
        check.fails("recover()", UnsupportedOperationException.class, () -> x.recover());
        check.same("count(0)", x.count(0), PulseGraph.IDLE);
        check.same("count(1)", x.count(1), 1);
        check.same("count(4)", x.count(4), 0);
        check.same("about(0, 2)", x.about(0, 2), 0);
        check.same("value(1): lost for good", x.value(1), 0.0);
        check.same("value(0): stays", x.value(0), 1.0 / 3);
        check.same("about(1, 3): stays", x.about(1, 3), 2);
        check.same("aggregate(): stays", x.aggregate(), 1.0);
        check.refuses(x, "recover() again", IllegalStateException.class, () -> x.recover());
        check.same("vertex(5, 0.0)", x.vertex(5, 0.0), 4);
    }

    @Sentence("There is no CHECKPOINT: UnsupportedOperationException, and it is IDLE.")
    static void isIdleAfterFailing(Check check) {
        PulseGraph x = Graphs.failed();
        check.fails("recover()", UnsupportedOperationException.class, () -> x.recover());
        check.same("count(0)", x.count(0), PulseGraph.IDLE);
        check.same("count(1)", x.count(1), 1);
        check.same("start(2, 0, false)", x.start(2, 0, false), 3);
    }

    @Sentence("There is no CHECKPOINT: UnsupportedOperationException, and it is IDLE.")
    static void isIdleAfterRunning(Check check) {
        PulseGraph x = Graphs.running();
        check.fails("recover()", UnsupportedOperationException.class, () -> x.recover());
        check.same("count(0)", x.count(0), PulseGraph.IDLE);
        check.same("count(1)", x.count(1), 1);
    }

    @Sentence("There is no CHECKPOINT: UnsupportedOperationException, and it is IDLE.")
    static void doesNotReachTheOneOfARunBefore(Check check) {
        PulseGraph x = Graphs.running();
        x.save();
        x.stop();
        x.start(0, 9, false);
        x.lose(0);
        check.fails("recover()", UnsupportedOperationException.class, () -> x.recover());
        check.same("count(0)", x.count(0), PulseGraph.IDLE);
    }

    @Sentence("All is as the CHECKPOINT keeps it (which stays), RUNNING.")
    static void isAsItWasKeptAgainAndAgain(Check check) {
        PulseGraph x = Graphs.link(Graphs.of(0, 1, 2, 3), 0, 1, 0, 2, 1, 2, 2, 0, 3, 2);
        x.start(0, 8, true);
        x.step(2);
        x.save();
        String kept = Graphs.seen(x);
        x.step(3);
        x.lose(2);
        check.same("recover() broken", x.recover(), 2);
        check.that("all is as it was kept", Graphs.seen(x).equals(kept));
        x.step(4);
        check.same("recover() running", x.recover(), 2);
        check.that("all is as it was kept, again", Graphs.seen(x).equals(kept));
        check.same("recover() at once", x.recover(), 2);
        check.that("all is as it was kept, once more", Graphs.seen(x).equals(kept));
        check.same("step(10): it runs on", x.step(10), 7);
    }

    @Sentence("All is as the CHECKPOINT keeps it (which stays), RUNNING.")
    static void runsOnAsIfNothingHadBeen(Check check) {
        PulseGraph x = Graphs.running();
        PulseGraph y = Graphs.running();
        x.save();
        y.save();
        x.step(3);
        x.lose(0);
        x.recover();
        x.step(5);
        y.step(5);
        check.that("both are the same", Graphs.seen(x).equals(Graphs.seen(y)));
    }

    @Sentence("All is as the CHECKPOINT keeps it (which stays), RUNNING.")
    static void bringsRemovedVerticesBack(Check check) {
        PulseGraph x = Graphs.link(Graphs.of(0, 1, 2), 0, 1, 1, 0, 2, 0, 0, 2);
        x.edge(2, 1, 1.0);
        x.start(3, 2, false);
        x.step(1);
        x.save();
        String kept = Graphs.seen(x);
        x.step(1);
        check.fails("value(2)", NoSuchElementException.class, () -> x.value(2));
        x.recover();
        check.that("all is as it was kept", Graphs.seen(x).equals(kept));
        check.same("step(1)", x.step(1), 1);
        check.fails("value(2)", NoSuchElementException.class, () -> x.value(2));
    }

    @Sentence("All is as the CHECKPOINT keeps it (which stays), RUNNING.")
    static void runsAfterFailing(Check check) {
        PulseGraph x = Graphs.failing();
        x.save();
        check.fails("step(2)", UnsupportedOperationException.class, () -> x.step(2));
        check.same("recover()", x.recover(), 0);
        check.same("count(0)", x.count(0), PulseGraph.RUNNING);
        check.same("about(1, 2)", x.about(1, 2), 1);
        check.same("step(1)", x.step(1), 1);
        check.fails("step(1)", UnsupportedOperationException.class, () -> x.step(1));
        check.same("recover()", x.recover(), 0);
    }

    @Sentence("Answers SUPERSTEP.")
    static void answersTheSuperstepOfTheCheckpoint(Check check) {
        PulseGraph x = Graphs.ring();
        x.start(0, 30, false);
        x.save();
        x.step(10);
        check.same("recover() to the start", x.recover(), 0);
        check.same("count(1)", x.count(1), 0);
        for (int i = 1; i < 31; i++) {
            x.step(1);
            x.save();
            x.lose(i % 3);
            check.same("recover()", x.recover(), i);
        }
    }
}
