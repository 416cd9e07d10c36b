@Part("Promise 8: lose")
public final class LoseTest {
    public static void main(String[] args) throws Exception {
        Sentences.run(LoseTest.class);
    }

    @Sentence("worker 0 .. 2.")
    static void takesEachWorker(Check check) {
        for (int worker = 0; worker < 3; worker++) {
            PulseGraph x = Graphs.running();
            check.same("lose(" + worker + ")", x.lose(worker), 1);
            for (int v = 0; v < 3; v++) {
                check.same("value(" + v + ")", x.value(v), v == worker ? 0.0 : 1.0 / 3);
            }
        }
    }

    @Sentence("worker 0 .. 2.")
    static void refusesAWorkerOutOfRange(Check check) {
        PulseGraph x = Graphs.running();
        PulseGraph idle = Graphs.ring();
        for (int worker : Graphs.outside(0, 2)) {
            check.refuses(x, "lose(" + worker + ")", IllegalArgumentException.class, () -> x.lose(worker));
            check.refuses(idle, "lose(" + worker + ") idle", IllegalArgumentException.class, () -> idle.lose(worker));
        }
    }

    @Sentence("It is not RUNNING: IllegalStateException.")
    static void refusesWhileIdle(Check check) {
        PulseGraph x = Graphs.ring();
        x.vertex(0, 4.0);
        check.refuses(x, "lose(0) before", IllegalStateException.class, () -> x.lose(0));
        x.start(2, 0, false);
        x.stop();
        check.refuses(x, "lose(0) stopped", IllegalStateException.class, () -> x.lose(0));
    }

    @Sentence("It is not RUNNING: IllegalStateException.")
    static void refusesWhileBroken(Check check) {
        PulseGraph x = Graphs.lost();
        check.refuses(x, "lose(0) lost", IllegalStateException.class, () -> x.lose(0));
        check.refuses(x, "lose(1) lost", IllegalStateException.class, () -> x.lose(1));
        PulseGraph y = Graphs.failed();
        check.refuses(y, "lose(1) failed", IllegalStateException.class, () -> y.lose(1));
    }

    @Sentence("The VALUES of its VERTICES are 0.0, MESSAGES for them are gone; BROKEN.")
    static void losesValuesAndMessages(Check check) {
        PulseGraph x = Graphs.link(Graphs.of(0, 1, 4, 10, 11), 0, 1, 0, 4, 1, 0, 4, 11, 11, 10);
        x.start(0, 9, false);
        x.step(1);
        check.same("lose(1)", x.lose(1), 3);
        check.same("count(0)", x.count(0), PulseGraph.BROKEN);
        for (int v : new int[] {1, 4, 10}) {
            check.same("value(" + v + ")", x.value(v), 0.0);
            check.same("about(" + v + ", 1)", x.about(v, 1), 0);
            check.fails("message(" + v + ", 0)", IndexOutOfBoundsException.class, () -> x.message(v, 0));
            check.same("about(" + v + ", 2): awake as before", x.about(v, 2), 1);
        }
        check.same("count(4)", x.count(4), 2);
    }

    @Sentence("The VALUES of its VERTICES are 0.0, MESSAGES for them are gone; BROKEN.")
    static void leavesAllElse(Check check) {
        PulseGraph x = Graphs.link(Graphs.of(0, 1, 4, 10, 11), 0, 1, 0, 4, 1, 0, 4, 11, 11, 10);
        x.start(0, 9, false);
        x.step(1);
        x.lose(1);
        check.same("value(0)", x.value(0), 0.2);
        check.same("message(0, 0)", x.message(0, 0), 0.2);
        check.same("message(11, 0)", x.message(11, 0), 0.2);
        check.same("about(4, 3): edges stay", x.about(4, 3), 11);
        check.same("about(0, 3): edges stay", x.about(0, 3), 1);
        check.same("count(1)", x.count(1), 1);
        check.same("count(2)", x.count(2), 5);
        check.same("aggregate()", x.aggregate(), 1.0);
    }

    @Sentence("The VALUES of its VERTICES are 0.0, MESSAGES for them are gone; BROKEN.")
    static void keepsSleepersAsleep(Check check) {
        PulseGraph x = Graphs.failing();
        x.step(1);
        x.lose(1);
        check.same("about(1, 2)", x.about(1, 2), 0);
        check.same("value(1)", x.value(1), 0.0);
        check.same("count(4): the only message is gone", x.count(4), 0);
        check.same("count(0): broken all the same", x.count(0), PulseGraph.BROKEN);
    }

    @Sentence("The VALUES of its VERTICES are 0.0, MESSAGES for them are gone; BROKEN.")
    static void leavesTheCheckpoint(Check check) {
        PulseGraph x = Graphs.running();
        x.save();
        x.lose(1);
        check.same("count(3)", x.count(3), 1);
        x.recover();
        check.same("value(1)", x.value(1), 1.0 / 3);
        check.same("message(1, 0)", x.message(1, 0), 1.0 / 3);
    }

    @Sentence("Answers how many VERTICES these were.")
    static void countsNoneToFour(Check check) {
        PulseGraph x = Graphs.of(0, 3, 4);
        x.start(0, 9, false);
        check.same("lose(2) of none", x.lose(2), 0);
        check.same("count(0)", x.count(0), PulseGraph.BROKEN);
        for (int worker = 0; worker < 3; worker++) {
            PulseGraph y = Graphs.full();
            y.start(0, 9, false);
            check.same("lose(" + worker + ") of twelve", y.lose(worker), 4);
        }
    }
}
