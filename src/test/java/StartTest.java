@Part("Promise 5: start")
public final class StartTest {
    public static void main(String[] args) throws Exception {
        Sentences.run(StartTest.class);
    }

    @Sentence("program 0 .. 3,")
    static void takesEachProgram(Check check) {
        for (int program = 0; program < 4; program++) {
            PulseGraph x = Graphs.ring();
            check.same("start(" + program + ", 1, false)", x.start(program, 1, false), 3);
            check.same("count(0)", x.count(0), PulseGraph.RUNNING);
        }
    }

    @Sentence("program 0 .. 3,")
    static void refusesAProgramOutOfRange(Check check) {
        PulseGraph x = Graphs.ring();
        for (int program : Graphs.outside(0, 3)) {
            check.refuses(x, "start(" + program + ", 0, false)", IllegalArgumentException.class,
                    () -> x.start(program, 0, false));
        }
    }

    @Sentence("number 0 .. 30.")
    static void takesTheLeastAndTheGreatestNumber(Check check) {
        PulseGraph x = Graphs.ring();
        check.same("start(0, 0, false)", x.start(0, 0, false), 3);
        check.same("step(10)", x.step(10), 1);
        check.same("start(0, 30, false)", x.start(0, 30, false), 3);
        check.same("step(10)", x.step(10), 10);
        check.same("step(10)", x.step(10), 10);
        check.same("step(10)", x.step(10), 10);
        check.same("step(10)", x.step(10), 1);
        check.same("start(3, 30, true)", x.start(3, 30, true), 3);
        check.same("step(10): all are removed", x.step(10), 2);
    }

    @Sentence("number 0 .. 30.")
    static void refusesANumberOutOfRange(Check check) {
        PulseGraph x = Graphs.ring();
        for (int number : Graphs.outside(0, 30)) {
            for (int program = 0; program < 4; program++) {
                int p = program;
                check.fails("start(" + p + ", " + number + ", true)", IllegalArgumentException.class,
                        () -> x.start(p, number, true));
            }
        }
        check.refuses(x, "start(1, 31, false)", IllegalArgumentException.class, () -> x.start(1, 31, false));
        check.same("count(0)", x.count(0), PulseGraph.IDLE);
    }

    @Sentence("It is not IDLE, or no VERTEX is there: IllegalStateException.")
    static void refusesWhileRunningAndGoesOn(Check check) {
        PulseGraph x = Graphs.running();
        check.refuses(x, "start(3, 2, true)", IllegalStateException.class, () -> x.start(3, 2, true));
        check.refuses(x, "start(4, 2, true)", IllegalArgumentException.class, () -> x.start(4, 2, true));
        x.save();
        check.refuses(x, "start(0, 0, false)", IllegalStateException.class, () -> x.start(0, 0, false));
        check.same("step(10): by the program and the number of before", x.step(10), 9);
        check.same("count(2)", x.count(2), 3);
    }

    @Sentence("It is not IDLE, or no VERTEX is there: IllegalStateException.")
    static void refusesWhileBroken(Check check) {
        PulseGraph x = Graphs.lost();
        check.refuses(x, "start(0, 0, false) lost", IllegalStateException.class, () -> x.start(0, 0, false));
        PulseGraph y = Graphs.failed();
        check.refuses(y, "start(0, 0, false) failed", IllegalStateException.class, () -> y.start(0, 0, false));
        y.stop();
        check.same("start(0, 0, false) stopped", y.start(0, 0, false), 3);
    }

    @Sentence("It is not IDLE, or no VERTEX is there: IllegalStateException.")
    static void refusesWithoutVertices(Check check) {
        PulseGraph x = new PulseGraph();
        check.refuses(x, "start(0, 0, false)", IllegalStateException.class, () -> x.start(0, 0, false));
        check.refuses(x, "start(3, 30, true)", IllegalStateException.class, () -> x.start(3, 30, true));
        check.refuses(x, "start(-1, 0, false)", IllegalArgumentException.class, () -> x.start(-1, 0, false));
        check.refuses(x, "start(0, 31, false)", IllegalArgumentException.class, () -> x.start(0, 31, false));
        x.vertex(6, 0.0);
        check.same("start(0, 0, false) with one", x.start(0, 0, false), 1);
    }

    @Sentence("It is not IDLE, or no VERTEX is there: IllegalStateException.")
    static void refusesAfterAllWereRemoved(Check check) {
        PulseGraph x = Graphs.ring();
        x.start(3, 2, false);
        x.save();
        x.step(2);
        check.same("count(2)", x.count(2), 0);
        check.refuses(x, "start(0, 0, false)", IllegalStateException.class, () -> x.start(0, 0, false));
        check.same("count(3): the checkpoint stays", x.count(3), 1);
        check.same("aggregate(): stays", x.aggregate(), 3.0);
    }

    @Sentence("RUNNING in SUPERSTEP 0, all AWAKE, no MESSAGES, no CHECKPOINT;")
    static void beginsAfresh(Check check) {
        for (int program = 0; program < 4; program++) {
            PulseGraph x = Graphs.running();
            x.step(1);
            x.save();
            x.stop();
            x.vertex(1, 7.5);
            x.vertex(9, 3.0);
            x.start(program, 0, false);
            check.same("count(0)", x.count(0), PulseGraph.RUNNING);
            check.same("count(1)", x.count(1), 0);
            for (int v : new int[] {0, 1, 2, 9}) {
                check.same("about(" + v + ", 2)", x.about(v, 2), 1);
                check.same("about(" + v + ", 1)", x.about(v, 1), 0);
            }
            check.same("count(4)", x.count(4), 0);
            check.same("count(3)", x.count(3), 0);
            check.same("value(1): values stay", x.value(1), 7.5);
            check.same("about(1, 3): edges stay", x.about(1, 3), 2);
            check.fails("recover()", UnsupportedOperationException.class, () -> x.recover());
        }
    }

    @Sentence("RUNNING in SUPERSTEP 0, all AWAKE, no MESSAGES, no CHECKPOINT;")
    static void takesNoMessagesFromTheRunBefore(Check check) {
        PulseGraph x = Graphs.ring();
        x.vertex(0, 50.0);
        x.start(2, 0, false);
        x.step(1);
        x.stop();
        x.start(2, 0, false);
        x.step(1);
        check.same("value(1): 50.0 was not had", x.value(1), 0.0);
        check.same("about(1, 1)", x.about(1, 1), 1);
    }

    @Sentence("the AGGREGATE is 1.0 for 3, else 0.0.")
    static void setsTheAggregate(Check check) {
        for (int program = 0; program < 4; program++) {
            PulseGraph x = Graphs.ring();
            x.vertex(1, 6.0);
            x.start(2, 0, false);
            x.step(1);
            x.stop();
            check.same("aggregate() before", x.aggregate(), 6.0);
            x.start(program, 0, false);
            check.same("aggregate() of " + program, x.aggregate(), program == 3 ? 1.0 : 0.0);
        }
    }

    @Sentence("Answers how many VERTICES there are.")
    static void countsOneToTwelve(Check check) {
        PulseGraph x = new PulseGraph();
        for (int v = 0; v < 12; v++) {
            x.vertex(v, 0.0);
            check.same("start(2, 0, false)", x.start(2, 0, false), v + 1);
            x.stop();
        }
    }
}
