@Part("Promise 15: count")
public final class CountTest {
    public static void main(String[] args) throws Exception {
        Sentences.run(CountTest.class);
    }

    @Sentence("0 IDLE, RUNNING, BROKEN;")
    static void tellsTheState(Check check) {
        PulseGraph x = Graphs.ring();
        check.same("count(0)", x.count(0), 0);
        x.start(0, 9, false);
        check.same("count(0) started", x.count(0), 1);
        x.save();
        x.lose(0);
        check.same("count(0) lost", x.count(0), 2);
        x.recover();
        check.same("count(0) recovered", x.count(0), 1);
        x.stop();
        check.same("count(0) stopped", x.count(0), 0);
        check.same("count(0) failed", Graphs.failed().count(0), 2);
    }

    @Sentence("1 the SUPERSTEP of now or of when it was IDLE last, 0 before;")
    static void isZeroBeforeTheFirstRun(Check check) {
        PulseGraph x = new PulseGraph();
        check.same("count(1)", x.count(1), 0);
        x.vertex(0, 0.0);
        check.same("count(1) with a vertex", x.count(1), 0);
    }

    @Sentence("1 the SUPERSTEP of now or of when it was IDLE last, 0 before;")
    static void tellsTheSuperstepOfNow(Check check) {
        PulseGraph x = Graphs.ring();
        x.start(0, 9, false);
        check.same("count(1) started", x.count(1), 0);
        x.step(2);
        check.same("count(1)", x.count(1), 2);
        x.save();
        x.step(1);
        x.lose(0);
        check.same("count(1) broken", x.count(1), 3);
        x.recover();
        check.same("count(1) recovered", x.count(1), 2);
        check.same("count(1) failed", Graphs.failed().count(1), 1);
    }

    @Sentence("1 the SUPERSTEP of now or of when it was IDLE last, 0 before;")
    static void tellsTheSuperstepAtWhichItBecameIdle(Check check) {
        PulseGraph x = Graphs.running();
        x.stop();
        check.same("count(1) stopped", x.count(1), 1);
        x.vertex(7, 0.0);
        x.remove(0);
        check.same("count(1): no building changes it", x.count(1), 1);
        x.start(0, 3, false);
        check.same("count(1) started", x.count(1), 0);
        x.step(10);
        check.same("count(1) at the end", x.count(1), 4);
        PulseGraph y = Graphs.lost();
        check.fails("recover()", UnsupportedOperationException.class, () -> y.recover());
        check.same("count(1) without a checkpoint", y.count(1), 1);
    }

    @Sentence("2 VERTICES there;")
    static void countsNoneToTwelve(Check check) {
        PulseGraph x = new PulseGraph();
        check.same("count(2) of none", x.count(2), 0);
        for (int v = 0; v < 12; v++) {
            x.vertex(v, 0.0);
            check.same("count(2)", x.count(2), v + 1);
        }
        x.remove(3);
        check.same("count(2) after remove(3)", x.count(2), 11);
        x.start(3, 1, false);
        x.step(1);
        check.same("count(2) running", x.count(2), 11);
        x.step(1);
        check.same("count(2) after all were removed", x.count(2), 0);
    }

    @Sentence("3: 1 with a CHECKPOINT, else 0;")
    static void tellsWhetherThereIsACheckpoint(Check check) {
        PulseGraph x = Graphs.running();
        check.same("count(3)", x.count(3), 0);
        x.save();
        check.same("count(3) saved", x.count(3), 1);
        x.save();
        check.same("count(3) saved again", x.count(3), 1);
        x.lose(0);
        check.same("count(3) broken", x.count(3), 1);
        x.recover();
        check.same("count(3) recovered: it stays", x.count(3), 1);
        x.stop();
        check.same("count(3) stopped", x.count(3), 1);
        x.start(0, 1, false);
        check.same("count(3) started anew", x.count(3), 0);
    }

    @Sentence("4 MESSAGES for all, 0 if IDLE.")
    static void countsMessages(Check check) {
        PulseGraph x = Graphs.link(Graphs.of(0, 1, 2), 1, 2, 1, 0, 0, 2);
        check.same("count(4) idle", x.count(4), 0);
        x.start(0, 4, false);
        check.same("count(4) started", x.count(4), 0);
        x.step(2);
        check.same("count(4)", x.count(4), 3);
        x.lose(2);
        check.same("count(4) broken", x.count(4), 1);
        x.stop();
        check.same("count(4) stopped", x.count(4), 0);
    }

    @Sentence("4 MESSAGES for all, 0 if IDLE.")
    static void countsMessagesOfAFullGraph(Check check) {
        PulseGraph x = Graphs.full();
        for (int i = 0; i < 144; i++) {
            x.edge(i / 12, i % 12, 1.0);
        }
        x.start(2, 0, false);
        x.step(1);
        check.same("count(4): twelve for each", x.count(4), 144);
        x.stop();
        x.start(2, 0, true);
        x.step(1);
        check.same("count(4): three for each", x.count(4), 36);
    }

    @Sentence("what 0 .. 4.")
    static void takesTheLeastAndTheGreatest(Check check) {
        PulseGraph x = Graphs.running();
        check.same("count(0)", x.count(0), PulseGraph.RUNNING);
        check.same("count(4)", x.count(4), 3);
    }

    @Sentence("what 0 .. 4.")
    static void refusesWhatIsOutOfRange(Check check) {
        PulseGraph x = Graphs.running();
        PulseGraph none = new PulseGraph();
        for (int what : Graphs.outside(0, 4)) {
            check.refuses(x, "count(" + what + ")", IllegalArgumentException.class, () -> x.count(what));
            check.refuses(none, "count(" + what + ")", IllegalArgumentException.class, () -> none.count(what));
        }
    }
}
