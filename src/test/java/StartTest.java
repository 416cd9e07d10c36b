/** Promise 5. */
public final class StartTest {
    private static final Check check = new Check();

    public static void main(String[] args) {
        for (int program = 0; program < 4; program++) {
            beginsAfresh(program);
        }
        refusesWhatIsWrong();
        check.end();
    }

    private static void beginsAfresh(int program) {
        PulseGraph x = Graphs.ring();
        x.vertex(1, 7.5);
        x.start(0, 30, false);
        x.step(2);
        x.save();
        x.stop();
        x.vertex(1, 7.5);
        x.vertex(9, 3.0);
        check.same("start of " + program, x.start(program, 0, false), 4);
        check.same("count(0)", x.count(0), PulseGraph.RUNNING);
        check.same("count(1)", x.count(1), 0);
        check.same("count(3): no checkpoint", x.count(3), 0);
        check.same("count(4): no messages", x.count(4), 0);
        check.same("aggregate()", x.aggregate(), program == 3 ? 1.0 : 0.0);
        check.same("value(1): values stay", x.value(1), 7.5);
        for (int v : new int[] {0, 1, 2, 9}) {
            check.same("about(" + v + ", 2): awake", x.about(v, 2), 1);
        }
    }

    private static void refusesWhatIsWrong() {
        PulseGraph x = new PulseGraph();
        check.refuses("start without vertices", IllegalStateException.class, () -> x.start(0, 0, false));
        check.refuses("start(-1) without vertices", IllegalArgumentException.class, () -> x.start(-1, 0, false));
        check.same("count(0)", x.count(0), PulseGraph.IDLE);
        x.vertex(6, 1.0);
        check.refuses("start(-1, 0)", IllegalArgumentException.class, () -> x.start(-1, 0, false));
        check.refuses("start(4, 0)", IllegalArgumentException.class, () -> x.start(4, 0, false));
        check.refuses("start(0, -1)", IllegalArgumentException.class, () -> x.start(0, -1, false));
        check.refuses("start(0, 31)", IllegalArgumentException.class, () -> x.start(0, 31, false));
        check.same("start(3, 30)", x.start(3, 30, true), 1);
        check.refuses("start running", IllegalStateException.class, () -> x.start(0, 0, false));
        check.same("aggregate() as it was", x.aggregate(), 1.0);
        x.lose(2);
        check.refuses("start broken", IllegalStateException.class, () -> x.start(0, 0, false));
    }
}
