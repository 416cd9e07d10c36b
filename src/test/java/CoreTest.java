import java.util.NoSuchElementException;

@Part("Terms: 3 CORE")
public final class CoreTest {
    public static void main(String[] args) throws Exception {
        Sentences.run(CoreTest.class);
    }

    /** A triangle 0, 1, 2 with a tail 3, 4, all edges both ways. */
    private static PulseGraph triangleWithTail() {
        return Graphs.link(Graphs.of(0, 1, 2, 3, 4),
                0, 1, 1, 0, 1, 2, 2, 1, 0, 2, 2, 0, 2, 3, 3, 2, 3, 4, 4, 3);
    }

    @Sentence("SUPERSTEP even: it SENDS 1.0;")
    static void sendsOneAlongEachEdge(Check check) {
        PulseGraph x = triangleWithTail();
        x.start(3, 2, false);
        x.step(1);
        check.same("count(4)", x.count(4), 10);
        for (int i = 0; i < 3; i++) {
            check.same("message(2, " + i + ")", x.message(2, i), 1.0);
        }
        x.step(1);
        check.same("count(4): nothing is sent in odd supersteps", x.count(4), 0);
        x.step(1);
        check.same("count(4): 4 sends no more, nor 3 to it", x.count(4), 8);
    }

    @Sentence("SUPERSTEP even: it SENDS 1.0;")
    static void leavesValuesInEvenSupersteps(Check check) {
        PulseGraph x = triangleWithTail();
        x.vertex(0, 55.0);
        x.start(3, 2, false);
        x.step(1);
        check.same("value(0)", x.value(0), 55.0);
        check.same("count(2)", x.count(2), 5);
        check.same("about(0, 2)", x.about(0, 2), 1);
    }

    @Sentence("odd: if the sum of m, from 0.0, is below NUMBER: it is REMOVED, and offers 1.0;")
    static void peelsRoundByRound(Check check) {
        PulseGraph x = triangleWithTail();
        x.start(3, 2, false);
        x.step(2);
        check.fails("value(4)", NoSuchElementException.class, () -> x.value(4));
        check.same("count(2)", x.count(2), 4);
        check.same("aggregate()", x.aggregate(), 1.0);
        x.step(2);
        check.fails("value(3)", NoSuchElementException.class, () -> x.value(3));
        check.same("count(2)", x.count(2), 3);
        check.same("aggregate()", x.aggregate(), 1.0);
        x.step(2);
        check.same("count(2)", x.count(2), 3);
        check.same("aggregate(): none was removed", x.aggregate(), 0.0);
    }

    @Sentence("odd: if the sum of m, from 0.0, is below NUMBER: it is REMOVED, and offers 1.0;")
    static void removesAllAtOnce(Check check) {
        PulseGraph x = Graphs.ring();
        x.start(3, 2, false);
        check.same("step(10)", x.step(10), 2);
        check.same("count(2)", x.count(2), 0);
        check.same("aggregate()", x.aggregate(), 3.0);
        check.same("count(0)", x.count(0), PulseGraph.IDLE);
    }

    @Sentence("odd: if the sum of m, from 0.0, is below NUMBER: it is REMOVED, and offers 1.0;")
    static void removesAFullGraphAboveTwelveOnly(Check check) {
        for (int number = 12; number < 14; number++) {
            PulseGraph x = Graphs.full();
            for (int i = 0; i < 144; i++) {
                x.edge(i / 12, i % 12, 1.0);
            }
            x.start(3, number, number == 12);
            x.step(2);
            check.same("count(2) with NUMBER " + number, x.count(2), number == 12 ? 12 : 0);
            check.same("aggregate()", x.aggregate(), number == 12 ? 0.0 : 12.0);
        }
    }

    @Sentence("odd: if the sum of m, from 0.0, is below NUMBER: it is REMOVED, and offers 1.0;")
    static void removesWithoutMessages(Check check) {
        PulseGraph x = Graphs.of(7);
        x.start(3, 1, false);
        check.same("step(10)", x.step(10), 2);
        check.same("count(2)", x.count(2), 0);
        check.same("aggregate()", x.aggregate(), 1.0);
    }

    @Sentence("else its VALUE is the sum.")
    static void keepsTheSumOfTheLastRound(Check check) {
        PulseGraph x = triangleWithTail();
        x.start(3, 2, false);
        x.step(2);
        check.same("value(0): as much as NUMBER", x.value(0), 2.0);
        check.same("value(2)", x.value(2), 3.0);
        check.same("value(3)", x.value(3), 2.0);
        x.step(4);
        check.same("value(2)", x.value(2), 2.0);
    }

    @Sentence("else its VALUE is the sum.")
    static void keepsAllWithNumberZero(Check check) {
        PulseGraph x = Graphs.of(0, 1);
        x.vertex(1, 6.0);
        x.start(3, 0, false);
        check.same("step(10)", x.step(10), 4);
        check.same("count(2)", x.count(2), 2);
        check.same("value(1): the sum of none", x.value(1), 0.0);
    }

    @Sentence("It SLEEPS in odd SUPERSTEPS if the AGGREGATE is 0.0.")
    static void sleepsARoundAfterNoneWasRemoved(Check check) {
        PulseGraph x = triangleWithTail();
        x.start(3, 2, false);
        x.step(6);
        check.same("aggregate()", x.aggregate(), 0.0);
        check.same("about(0, 2): it was not 0.0 in the step", x.about(0, 2), 1);
        x.step(1);
        check.same("about(0, 2): not in even supersteps", x.about(0, 2), 1);
        check.same("aggregate()", x.aggregate(), 0.0);
        check.same("step(10)", x.step(10), 1);
        check.same("count(0)", x.count(0), PulseGraph.IDLE);
        check.same("count(1)", x.count(1), 8);
        check.same("value(0)", x.value(0), 2.0);
    }

    @Sentence("It SLEEPS in odd SUPERSTEPS if the AGGREGATE is 0.0.")
    static void staysAwakeInTheFirstRound(Check check) {
        PulseGraph x = Graphs.link(Graphs.of(0), 0, 0);
        x.start(3, 1, false);
        x.step(2);
        check.same("about(0, 2)", x.about(0, 2), 1);
        check.same("count(0)", x.count(0), PulseGraph.RUNNING);
        check.same("step(10)", x.step(10), 2);
    }
}
