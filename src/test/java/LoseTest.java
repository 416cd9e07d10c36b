/** Promise 8. */
public final class LoseTest {
    private static final Check check = new Check();

    public static void main(String[] args) {
        losesValuesAndMessages();
        losesAnEmptyWorker();
        refusesWhatIsWrong();
        check.end();
    }

    private static void losesValuesAndMessages() {
        PulseGraph x = Graphs.link(Graphs.of(0, 1, 4, 10, 11), 0, 1, 0, 4, 1, 0, 4, 11, 11, 10);
        x.start(0, 9, false);
        x.step(1);
        check.same("lose(1)", x.lose(1), 3);
        check.same("count(0)", x.count(0), PulseGraph.BROKEN);
        for (int v : new int[] {1, 4, 10}) {
            check.same("value(" + v + ")", x.value(v), 0.0);
            check.same("about(" + v + ", 1)", x.about(v, 1), 0);
            check.same("about(" + v + ", 2): awake as before", x.about(v, 2), 1);
        }
        check.same("value(0)", x.value(0), 0.2);
        check.same("message(0, 0)", x.message(0, 0), 0.2);
        check.same("about(4, 3): edges stay", x.about(4, 3), 11);
        check.same("count(4)", x.count(4), 2);
        check.same("count(1)", x.count(1), 1);
        check.same("count(2)", x.count(2), 5);
        check.same("aggregate()", x.aggregate(), 1.0);
    }

    private static void losesAnEmptyWorker() {
        PulseGraph x = Graphs.of(0, 3);
        x.start(0, 9, false);
        check.same("lose(2)", x.lose(2), 0);
        check.same("count(0)", x.count(0), PulseGraph.BROKEN);
    }

    private static void refusesWhatIsWrong() {
        PulseGraph x = Graphs.ring();
        x.vertex(0, 4.0);
        check.refuses("lose(0) idle", IllegalStateException.class, () -> x.lose(0));
        check.refuses("lose(-1) idle", IllegalArgumentException.class, () -> x.lose(-1));
        x.start(2, 0, false);
        check.refuses("lose(-1)", IllegalArgumentException.class, () -> x.lose(-1));
        check.refuses("lose(3)", IllegalArgumentException.class, () -> x.lose(3));
        check.same("value(0)", x.value(0), 4.0);
        x.lose(1);
        check.refuses("lose(0) broken", IllegalStateException.class, () -> x.lose(0));
        check.same("value(0)", x.value(0), 4.0);
    }
}
