@Part("Promise 13: aggregate")
public final class AggregateTest {
    public static void main(String[] args) throws Exception {
        Sentences.run(AggregateTest.class);
    }

    @Sentence("The AGGREGATE.")
    static void answersInEachState(Check check) {
        PulseGraph x = Graphs.ring();
        check.same("aggregate() of no run", x.aggregate(), 0.0);
        x.vertex(2, 42.0);
        x.start(2, 0, false);
        check.same("aggregate() started", x.aggregate(), 0.0);
        x.step(1);
        check.same("aggregate() running", x.aggregate(), 42.0);
        x.lose(2);
        check.same("aggregate() broken", x.aggregate(), 42.0);
        x.stop();
        check.same("aggregate() idle", x.aggregate(), 42.0);
        x.vertex(5, 50.0);
        check.same("aggregate(): no value changes it", x.aggregate(), 42.0);
        x.start(3, 0, false);
        check.same("aggregate() of CORE", x.aggregate(), 1.0);
    }

    @Sentence("The AGGREGATE.")
    static void answersWithoutVertices(Check check) {
        PulseGraph x = Graphs.of(8);
        x.start(3, 1, false);
        x.step(2);
        check.same("count(2)", x.count(2), 0);
        check.same("aggregate()", x.aggregate(), 1.0);
    }

    @Sentence("The AGGREGATE.")
    static void answersAsBeforeAStepThatFailed(Check check) {
        PulseGraph x = Graphs.of(0, 1, 2);
        x.edge(0, 1, 900.0);
        x.edge(1, 2, 500.0);
        x.edge(2, 0, 500.0);
        x.start(1, 0, false);
        x.step(2);
        check.same("aggregate()", x.aggregate(), 900.0);
        check.fails("step(1)", UnsupportedOperationException.class, () -> x.step(1));
        check.same("aggregate() as before", x.aggregate(), 900.0);
    }
}
