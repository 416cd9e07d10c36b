import java.util.NoSuchElementException;

/** Promise 6 with program 3. */
public final class CoreTest {
    private static final Check check = new Check();

    public static void main(String[] args) {
        peelsOneByOne();
        removesAll();
        keepsAllWithNumberZero();
        combinesBySums();
        removesOnlyWhereItIsDue();
        check.end();
    }

    /** A triangle 0, 1, 2 with a tail 3, 4: the tail's end goes first. */
    private static PulseGraph triangleWithTail() {
        return Graphs.link(Graphs.of(0, 1, 2, 3, 4),
                0, 1, 1, 0, 1, 2, 2, 1, 0, 2, 2, 0, 2, 3, 3, 2, 3, 4, 4, 3);
    }

    private static void peelsOneByOne() {
        PulseGraph x = triangleWithTail();
        x.start(3, 2, false);
        x.step(1);
        check.same("aggregate(): stays in even supersteps", x.aggregate(), 1.0);
        check.same("about(4, 1)", x.about(4, 1), 1);
        check.same("about(0, 2): awake", x.about(0, 2), 1);
        x.step(1);
        check.refuses("value(4)", NoSuchElementException.class, () -> x.value(4));
        check.same("aggregate()", x.aggregate(), 1.0);
        check.same("value(2)", x.value(2), 3.0);
        check.same("value(3)", x.value(3), 2.0);
        check.same("about(3, 0): the edge to 4 is gone", x.about(3, 0), 1);
        check.same("count(4): nothing is sent in odd supersteps", x.count(4), 0);
        x.step(2);
        check.same("count(2)", x.count(2), 3);
        check.same("about(2, 0)", x.about(2, 0), 2);
        x.step(2);
        check.same("aggregate(): none went", x.aggregate(), 0.0);
        check.same("count(0): they sleep a round later", x.count(0), PulseGraph.RUNNING);
        check.same("value(2)", x.value(2), 2.0);
        x.step(1);
        check.same("aggregate(): stays in even supersteps", x.aggregate(), 0.0);
        check.same("step(10)", x.step(10), 1);
        check.same("count(0)", x.count(0), PulseGraph.IDLE);
        check.same("count(1)", x.count(1), 8);
    }

    private static void removesAll() {
        PulseGraph x = Graphs.ring();
        x.start(3, 2, false);
        check.same("step(10)", x.step(10), 2);
        check.same("count(2)", x.count(2), 0);
        check.same("aggregate()", x.aggregate(), 3.0);
        check.same("count(0)", x.count(0), PulseGraph.IDLE);
        x.vertex(1, 0.0);
        check.same("about(1, 0): edges went too", x.about(1, 0), 0);
    }

    private static void keepsAllWithNumberZero() {
        PulseGraph x = Graphs.of(0, 1);
        x.vertex(1, 6.0);
        x.start(3, 0, false);
        check.same("step(10)", x.step(10), 4);
        check.same("count(2)", x.count(2), 2);
        check.same("value(1): the sum of none", x.value(1), 0.0);
        check.same("aggregate()", x.aggregate(), 0.0);
    }

    private static void combinesBySums() {
        PulseGraph x = Graphs.link(Graphs.of(0, 1, 2, 4, 7), 1, 0, 4, 0, 7, 0, 2, 0);
        x.start(3, 4, true);
        x.step(1);
        check.same("about(0, 1)", x.about(0, 1), 2);
        check.same("message(0, 0)", x.message(0, 0), 3.0);
        check.same("message(0, 1)", x.message(0, 1), 1.0);
        x.step(1);
        check.same("value(0): not below", x.value(0), 4.0);
        check.same("count(2)", x.count(2), 1);
        check.same("aggregate()", x.aggregate(), 4.0);
    }

    private static void removesOnlyWhereItIsDue() {
        PulseGraph x = Graphs.ring();
        x.start(3, 2, false);
        x.step(2);
        x.vertex(0, 4.0);
        x.start(2, 0, false);
        check.same("step(10): a vertex made anew stays", x.step(10), 1);
        check.same("count(2)", x.count(2), 1);
        check.same("value(0)", x.value(0), 4.0);
    }
}
