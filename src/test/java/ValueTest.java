import java.util.NoSuchElementException;

@Part("Promise 11: value")
public final class ValueTest {
    public static void main(String[] args) throws Exception {
        Sentences.run(ValueTest.class);
    }

    @Sentence("The VALUE of a VERTEX.")
    static void answersOfEachVertex(Check check) {
        PulseGraph x = Graphs.full();
        for (int v = 0; v < 12; v++) {
            x.vertex(v, v * 1.25);
        }
        for (int v = 0; v < 12; v++) {
            check.same("value(" + v + ")", x.value(v), v * 1.25);
        }
    }

    @Sentence("The VALUE of a VERTEX.")
    static void answersInEachState(Check check) {
        PulseGraph x = Graphs.running();
        check.same("value(0) running", x.value(0), 1.0 / 3);
        x.lose(1);
        check.same("value(0) broken", x.value(0), 1.0 / 3);
        x.stop();
        check.same("value(0) idle", x.value(0), 1.0 / 3);
    }

    @Sentence("The VALUE of a VERTEX.")
    static void refusesAVertexOutOfRange(Check check) {
        PulseGraph x = Graphs.of(0, 11);
        for (int v : Graphs.outside(0, 11)) {
            check.refuses(x, "value(" + v + ")", IllegalArgumentException.class, () -> x.value(v));
        }
    }

    @Sentence("The VALUE of a VERTEX.")
    static void refusesAVertexThatIsNotThere(Check check) {
        PulseGraph x = Graphs.of(0, 11);
        for (int vertex = 1; vertex < 11; vertex++) {
            int v = vertex;
            check.refuses(x, "value(" + v + ")", NoSuchElementException.class, () -> x.value(v));
        }
        PulseGraph y = Graphs.of(0, 11);
        y.remove(11);
        check.refuses(y, "value(11): removed", NoSuchElementException.class, () -> y.value(11));
        y.start(3, 1, false);
        y.step(2);
        check.refuses(y, "value(0): removed", NoSuchElementException.class, () -> y.value(0));
    }
}
