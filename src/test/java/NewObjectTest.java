import java.util.NoSuchElementException;

@Part("Promise 1: A new object")
public final class NewObjectTest {
    public static void main(String[] args) throws Exception {
        Sentences.run(NewObjectTest.class);
    }

    @Sentence("No VERTICES;")
    static void hasNoVertices(Check check) {
        PulseGraph x = new PulseGraph();
        check.same("count(2)", x.count(2), 0);
        for (int vertex = 0; vertex < 12; vertex++) {
            int v = vertex;
            check.refuses(x, "value(" + v + ")", NoSuchElementException.class, () -> x.value(v));
        }
    }

    @Sentence("No VERTICES;")
    static void sharesNoVerticesWithAnother(Check check) {
        PulseGraph x = new PulseGraph();
        PulseGraph other = Graphs.running();
        other.save();
        PulseGraph last = new PulseGraph();
        check.same("count(2) of the one made before", x.count(2), 0);
        check.same("count(2) of the one made later", last.count(2), 0);
        check.same("count(3) of the one made later", last.count(3), 0);
        last.vertex(7, 1.0);
        check.same("count(2) of the other", other.count(2), 3);
    }

    @Sentence("IDLE;")
    static void isIdle(Check check) {
        PulseGraph x = new PulseGraph();
        check.same("count(0)", x.count(0), PulseGraph.IDLE);
        check.refuses(x, "step(1)", IllegalStateException.class, () -> x.step(1));
        check.refuses(x, "save()", IllegalStateException.class, () -> x.save());
        check.refuses(x, "lose(0)", IllegalStateException.class, () -> x.lose(0));
        check.refuses(x, "recover()", IllegalStateException.class, () -> x.recover());
        check.refuses(x, "stop()", IllegalStateException.class, () -> x.stop());
        check.same("vertex(0, 0.0)", x.vertex(0, 0.0), 1);
    }

    @Sentence("the AGGREGATE is 0.0.")
    static void hasTheAggregateZero(Check check) {
        check.same("aggregate()", new PulseGraph().aggregate(), 0.0);
    }
}
