import java.util.NoSuchElementException;

/** Promise 4. */
public final class RemoveTest {
    private static final Check check = new Check();

    public static void main(String[] args) {
        cutsEdges();
        forgetsItsOwnEdges();
        keepsLengthsOfTheRest();
        refusesWhatIsWrong();
        check.end();
    }

    private static void cutsEdges() {
        PulseGraph x = Graphs.link(Graphs.of(0, 1, 2, 3), 0, 1, 0, 2, 0, 3, 2, 2, 1, 2, 2, 0, 3, 1);
        check.same("remove(2): its own to itself not counted", x.remove(2), 2);
        check.same("count(2)", x.count(2), 3);
        check.refuses("value(2)", NoSuchElementException.class, () -> x.value(2));
        check.same("about(0, 0)", x.about(0, 0), 2);
        check.same("about(0, 3)", x.about(0, 3), 1);
        check.same("about(0, 4): the next moves up", x.about(0, 4), 3);
        check.same("about(0, 5)", x.about(0, 5), -1);
        check.same("about(1, 0)", x.about(1, 0), 0);
        check.same("about(3, 3)", x.about(3, 3), 1);
        check.same("remove(0)", x.remove(0), 0);
    }

    private static void forgetsItsOwnEdges() {
        PulseGraph x = Graphs.ring();
        x.remove(1);
        check.same("vertex(1, 4.0)", x.vertex(1, 4.0), 3);
        check.same("about(1, 0)", x.about(1, 0), 0);
        check.same("about(0, 0)", x.about(0, 0), 0);
        check.same("value(1)", x.value(1), 4.0);
    }

    private static void keepsLengthsOfTheRest() {
        PulseGraph x = Graphs.of(0, 1, 2, 3);
        x.edge(0, 1, 10.0);
        x.edge(0, 2, 20.0);
        x.edge(0, 3, 30.0);
        x.remove(1);
        x.start(1, 0, false);
        x.step(1);
        check.same("message(2, 0)", x.message(2, 0), 20.0);
        check.same("message(3, 0)", x.message(3, 0), 30.0);
    }

    private static void refusesWhatIsWrong() {
        PulseGraph x = Graphs.ring();
        check.refuses("remove(-1)", IllegalArgumentException.class, () -> x.remove(-1));
        check.refuses("remove(12)", IllegalArgumentException.class, () -> x.remove(12));
        check.refuses("remove(3)", NoSuchElementException.class, () -> x.remove(3));
        x.start(0, 5, false);
        check.refuses("remove(3) running", NoSuchElementException.class, () -> x.remove(3));
        check.refuses("remove(0) running", IllegalStateException.class, () -> x.remove(0));
        x.lose(1);
        check.refuses("remove(0) broken", IllegalStateException.class, () -> x.remove(0));
        check.same("count(2)", x.count(2), 3);
    }
}
