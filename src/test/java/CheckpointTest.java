import java.util.NoSuchElementException;

/** Promises 7 and 9. */
public final class CheckpointTest {
    private static final Check check = new Check();

    public static void main(String[] args) {
        keepsAll();
        keepsRemovedVertices();
        keepsTheNewestOnly();
        recoversAfterFailing();
        recoversWithout();
        staysWhenIdleUntilStart();
        refusesWhatIsWrong();
        check.end();
    }

    private static void keepsAll() {
        PulseGraph x = Graphs.link(Graphs.of(0, 1, 2, 3), 0, 1, 0, 2, 1, 2, 2, 0, 3, 2);
        x.start(0, 8, true);
        x.step(2);
        check.same("save()", x.save(), 2);
        check.same("count(3)", x.count(3), 1);
        String kept = Graphs.seen(x);
        x.step(3);
        x.lose(2);
        check.same("recover()", x.recover(), 2);
        check.that("all is as it was kept", Graphs.seen(x).equals(kept));
        x.step(4);
        check.same("recover() running, again", x.recover(), 2);
        check.that("all is as it was kept, again", Graphs.seen(x).equals(kept));
        check.same("step(10)", x.step(10), 7);
    }

    private static void keepsRemovedVertices() {
        PulseGraph x = Graphs.link(Graphs.of(0, 1, 2), 0, 1, 1, 0, 2, 0);
        x.start(3, 1, false);
        x.step(1);
        x.save();
        x.step(1);
        check.refuses("value(2)", NoSuchElementException.class, () -> x.value(2));
        x.recover();
        check.same("value(2)", x.value(2), 0.0);
        check.same("about(2, 3)", x.about(2, 3), 0);
        check.same("about(0, 1)", x.about(0, 1), 2);
        check.same("step(1)", x.step(1), 1);
        check.same("count(2)", x.count(2), 2);
    }

    private static void keepsTheNewestOnly() {
        PulseGraph x = Graphs.ring();
        x.start(0, 9, false);
        check.same("save()", x.save(), 0);
        x.step(3);
        check.same("save()", x.save(), 3);
        x.step(1);
        check.same("recover()", x.recover(), 3);
        check.same("count(1)", x.count(1), 3);
    }

    private static void recoversAfterFailing() {
        PulseGraph x = Graphs.failing();
        x.save();
        check.refuses("step(2)", UnsupportedOperationException.class, () -> x.step(2));
        check.same("recover()", x.recover(), 0);
        check.same("count(0)", x.count(0), PulseGraph.RUNNING);
        check.same("about(1, 2)", x.about(1, 2), 1);
        check.same("step(1)", x.step(1), 1);
    }

    private static void recoversWithout() {
        PulseGraph x = Graphs.ring();
        x.start(0, 9, false);
        x.step(2);
        x.lose(0);
        check.refuses("recover() broken", UnsupportedOperationException.class, () -> x.recover());
        check.same("count(0)", x.count(0), PulseGraph.IDLE);
        check.same("count(1)", x.count(1), 2);
        check.same("value(0): lost for good", x.value(0), 0.0);
        check.refuses("recover() idle", IllegalStateException.class, () -> x.recover());
        x.start(0, 9, false);
        check.refuses("recover() running", UnsupportedOperationException.class, () -> x.recover());
        check.same("count(0)", x.count(0), PulseGraph.IDLE);
    }

    private static void staysWhenIdleUntilStart() {
        PulseGraph x = Graphs.ring();
        x.start(0, 1, false);
        x.save();
        x.step(10);
        check.same("count(3) idle", x.count(3), 1);
        check.refuses("recover() idle", IllegalStateException.class, () -> x.recover());
        x.start(0, 1, false);
        check.same("count(3) started", x.count(3), 0);
        check.refuses("recover()", UnsupportedOperationException.class, () -> x.recover());
    }

    private static void refusesWhatIsWrong() {
        PulseGraph x = Graphs.ring();
        check.refuses("save() idle", IllegalStateException.class, () -> x.save());
        check.refuses("recover() idle", IllegalStateException.class, () -> x.recover());
        x.start(0, 9, false);
        x.lose(1);
        check.refuses("save() broken", IllegalStateException.class, () -> x.save());
        check.same("count(3)", x.count(3), 0);
    }
}
