import java.util.NoSuchElementException;

@Part("Terms")
public final class ThrowsTest {
    public static void main(String[] args) throws Exception {
        Sentences.run(ThrowsTest.class);
    }

    @Sentence("What is thrown, in this order: IllegalArgumentException: a number out of range.")
    static void refusesNumbersFirstWhileRunning(Check check) {
        PulseGraph x = Graphs.running();
        check.refuses(x, "vertex(12, 0.0)", IllegalArgumentException.class, () -> x.vertex(12, 0.0));
        check.refuses(x, "vertex(0, 1e6)", IllegalArgumentException.class, () -> x.vertex(0, 1e6));
        check.refuses(x, "edge(-1, 5, 1.0)", IllegalArgumentException.class, () -> x.edge(-1, 5, 1.0));
        check.refuses(x, "edge(5, -1, 1.0)", IllegalArgumentException.class, () -> x.edge(5, -1, 1.0));
        check.refuses(x, "edge(5, 6, -1.0)", IllegalArgumentException.class, () -> x.edge(5, 6, -1.0));
        check.refuses(x, "remove(-1)", IllegalArgumentException.class, () -> x.remove(-1));
        PulseGraph y = Graphs.running();
        check.refuses(y, "start(4, 0, true)", IllegalArgumentException.class, () -> y.start(4, 0, true));
        check.refuses(y, "start(0, 31, true)", IllegalArgumentException.class, () -> y.start(0, 31, true));
        check.refuses(y, "about(5, 15)", IllegalArgumentException.class, () -> y.about(5, 15));
        check.refuses(y, "message(12, -1)", IllegalArgumentException.class, () -> y.message(12, -1));
    }

    @Sentence("What is thrown, in this order: IllegalArgumentException: a number out of range.")
    static void refusesNumbersFirstWhileIdle(Check check) {
        PulseGraph x = new PulseGraph();
        check.refuses(x, "start(-1, 0, true)", IllegalArgumentException.class, () -> x.start(-1, 0, true));
        check.refuses(x, "step(0)", IllegalArgumentException.class, () -> x.step(0));
        check.refuses(x, "lose(3)", IllegalArgumentException.class, () -> x.lose(3));
        check.refuses(x, "edge(0, 12, 1.0)", IllegalArgumentException.class, () -> x.edge(0, 12, 1.0));
        check.refuses(x, "edge(0, 0, 1001.0)", IllegalArgumentException.class, () -> x.edge(0, 0, 1001.0));
        check.refuses(x, "message(-1, -1)", IllegalArgumentException.class, () -> x.message(-1, -1));
        check.refuses(x, "about(0, 15)", IllegalArgumentException.class, () -> x.about(0, 15));
        check.refuses(x, "about(12, 0)", IllegalArgumentException.class, () -> x.about(12, 0));
    }

    @Sentence("NoSuchElementException: a VERTEX that is not there.")
    static void refusesVerticesBeforeTheState(Check check) {
        PulseGraph x = Graphs.running();
        check.refuses(x, "edge(0, 5, 1.0)", NoSuchElementException.class, () -> x.edge(0, 5, 1.0));
        check.refuses(x, "edge(5, 0, 1.0)", NoSuchElementException.class, () -> x.edge(5, 0, 1.0));
        check.refuses(x, "remove(5)", NoSuchElementException.class, () -> x.remove(5));
        x.lose(0);
        check.refuses(x, "remove(5) broken", NoSuchElementException.class, () -> x.remove(5));
        check.refuses(x, "edge(5, 5, 1.0) broken", NoSuchElementException.class, () -> x.edge(5, 5, 1.0));
    }

    @Sentence("NoSuchElementException: a VERTEX that is not there.")
    static void refusesVerticesBeforeMessages(Check check) {
        PulseGraph x = Graphs.running();
        check.refuses(x, "message(5, 0)", NoSuchElementException.class, () -> x.message(5, 0));
        check.refuses(x, "message(5, -1)", NoSuchElementException.class, () -> x.message(5, -1));
        x.stop();
        check.refuses(x, "message(5, 0) idle", NoSuchElementException.class, () -> x.message(5, 0));
    }

    @Sentence("Then as the call says.")
    static void refusesTheRestLast(Check check) {
        PulseGraph x = Graphs.running();
        check.refuses(x, "vertex(0, 0.0)", IllegalStateException.class, () -> x.vertex(0, 0.0));
        check.refuses(x, "edge(0, 2, 1.0)", IllegalStateException.class, () -> x.edge(0, 2, 1.0));
        check.refuses(x, "remove(0)", IllegalStateException.class, () -> x.remove(0));
        check.refuses(x, "start(0, 0, true)", IllegalStateException.class, () -> x.start(0, 0, true));
        check.refuses(x, "message(0, 1)", IndexOutOfBoundsException.class, () -> x.message(0, 1));
        PulseGraph y = Graphs.ring();
        check.refuses(y, "step(1)", IllegalStateException.class, () -> y.step(1));
        check.refuses(y, "lose(0)", IllegalStateException.class, () -> y.lose(0));
        check.refuses(y, "message(0, 0)", IndexOutOfBoundsException.class, () -> y.message(0, 0));
    }

    @Sentence("A call that throws changes nothing, but as said.")
    static void keepsWhatNoCallTells(Check check) {
        PulseGraph x = Graphs.of(0, 1, 4);
        x.edge(0, 1, 3.0);
        x.edge(0, 4, 3.0);
        x.edge(1, 0, 2.0);
        x.edge(4, 0, 2.0);
        check.fails("edge(0, 1, 2000.0)", IllegalArgumentException.class, () -> x.edge(0, 1, 2000.0));
        x.start(1, 0, true);
        check.fails("edge(0, 1, 9.0) running", IllegalStateException.class, () -> x.edge(0, 1, 9.0));
        check.fails("start(0, 4, false) running", IllegalStateException.class, () -> x.start(0, 4, false));
        check.fails("start(2, 44, false) running", IllegalArgumentException.class, () -> x.start(2, 44, false));
        x.step(1);
        check.same("value(0): program and number stay", x.value(0), 0.0);
        check.same("message(1, 0): the length stays", x.message(1, 0), 3.0);
        x.step(1);
        check.same("about(0, 1): it combines still", x.about(0, 1), 1);
        check.same("message(0, 0)", x.message(0, 0), 5.0);
    }

    @Sentence("A call that throws changes nothing, but as said.")
    static void keepsTheCheckpoint(Check check) {
        PulseGraph x = Graphs.running();
        x.save();
        String kept = Graphs.seen(x);
        x.step(2);
        check.fails("start(0, 0, false)", IllegalStateException.class, () -> x.start(0, 0, false));
        x.lose(0);
        check.fails("save() broken", IllegalStateException.class, () -> x.save());
        check.fails("lose(1) broken", IllegalStateException.class, () -> x.lose(1));
        check.fails("step(1) broken", IllegalStateException.class, () -> x.step(1));
        check.same("recover()", x.recover(), 1);
        check.that("all is as it was kept", Graphs.seen(x).equals(kept));
    }

    @Sentence("A call that throws changes nothing, but as said.")
    static void changesAsSaidOnly(Check check) {
        PulseGraph x = Graphs.failing();
        x.step(1);
        check.fails("step(1)", UnsupportedOperationException.class, () -> x.step(1));
        check.same("count(0): as said of step", x.count(0), PulseGraph.BROKEN);
        check.fails("recover()", UnsupportedOperationException.class, () -> x.recover());
        check.same("count(0): as said of recover", x.count(0), PulseGraph.IDLE);
        check.same("count(1)", x.count(1), 1);
        check.same("value(0)", x.value(0), 0.0);
    }
}
