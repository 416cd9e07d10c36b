@Part("Promise 7: save")
public final class SaveTest {
    public static void main(String[] args) throws Exception {
        Sentences.run(SaveTest.class);
    }

    @Sentence("It is not RUNNING: IllegalStateException.")
    static void refusesWhileIdle(Check check) {
        PulseGraph x = Graphs.ring();
        check.refuses(x, "save() before", IllegalStateException.class, () -> x.save());
        x.start(0, 0, false);
        x.step(1);
        check.refuses(x, "save() at the end", IllegalStateException.class, () -> x.save());
        check.same("count(3)", x.count(3), 0);
        x.start(0, 5, false);
        x.stop();
        check.refuses(x, "save() stopped", IllegalStateException.class, () -> x.save());
    }

    @Sentence("It is not RUNNING: IllegalStateException.")
    static void refusesWhileBrokenAndKeepsTheOneOfBefore(Check check) {
        PulseGraph x = Graphs.lost();
        check.refuses(x, "save() lost", IllegalStateException.class, () -> x.save());
        check.same("count(3)", x.count(3), 0);
        PulseGraph y = Graphs.failing();
        y.save();
        check.fails("step(2)", UnsupportedOperationException.class, () -> y.step(2));
        check.refuses(y, "save() failed", IllegalStateException.class, () -> y.save());
        check.same("recover()", y.recover(), 0);
        check.same("about(1, 1)", y.about(1, 1), 0);
    }

    @Sentence("There is a CHECKPOINT of now (none other).")
    static void keepsNow(Check check) {
        PulseGraph x = Graphs.running();
        check.same("count(3) before", x.count(3), 0);
        String before = vertices(x);
        x.save();
        check.same("count(3)", x.count(3), 1);
        check.same("count(0): it runs on", x.count(0), PulseGraph.RUNNING);
        check.that("to save changes no vertex", vertices(x).equals(before));
        x.step(3);
        x.recover();
        check.that("the vertices are as when it was saved", vertices(x).equals(before));
    }

    /** What is seen of the vertices, without the line about the machine. */
    private static String vertices(PulseGraph x) {
        String seen = Graphs.seen(x);
        return seen.substring(seen.indexOf('\n'));
    }

    @Sentence("There is a CHECKPOINT of now (none other).")
    static void keepsTheNewestOnly(Check check) {
        PulseGraph x = Graphs.ring();
        x.start(0, 9, false);
        check.same("save()", x.save(), 0);
        x.step(3);
        check.same("save()", x.save(), 3);
        x.step(1);
        check.same("recover()", x.recover(), 3);
        check.same("recover() again", x.recover(), 3);
        check.same("count(1)", x.count(1), 3);
    }

    @Sentence("There is a CHECKPOINT of now (none other).")
    static void canGoBackInTime(Check check) {
        PulseGraph x = Graphs.running();
        x.save();
        x.step(4);
        x.recover();
        check.same("save() after recover()", x.save(), 1);
        x.step(2);
        check.same("recover()", x.recover(), 1);
    }

    @Sentence("Answers SUPERSTEP.")
    static void answersTheSuperstep(Check check) {
        PulseGraph x = Graphs.ring();
        x.start(0, 30, false);
        check.same("save() at the start", x.save(), 0);
        for (int i = 1; i < 31; i++) {
            x.step(1);
            check.same("save()", x.save(), i);
        }
    }
}
