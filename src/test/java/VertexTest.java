@Part("Promise 2: vertex")
public final class VertexTest {
    public static void main(String[] args) throws Exception {
        Sentences.run(VertexTest.class);
    }

    @Sentence("vertex 0 .. 11,")
    static void takesTheLeastAndTheGreatestVertex(Check check) {
        PulseGraph x = new PulseGraph();
        check.same("vertex(0, 1.0)", x.vertex(0, 1.0), 1);
        check.same("vertex(11, 2.0)", x.vertex(11, 2.0), 2);
        check.same("value(0)", x.value(0), 1.0);
        check.same("value(11)", x.value(11), 2.0);
    }

    @Sentence("vertex 0 .. 11,")
    static void refusesAVertexOutOfRange(Check check) {
        PulseGraph x = Graphs.of(0, 11);
        for (int v : Graphs.outside(0, 11)) {
            check.refuses(x, "vertex(" + v + ", 0.0)", IllegalArgumentException.class, () -> x.vertex(v, 0.0));
        }
    }

    @Sentence("value -100000.0 .. 100000.0.")
    static void takesTheLeastAndTheGreatestValue(Check check) {
        PulseGraph x = new PulseGraph();
        check.same("vertex(3, -100000.0)", x.vertex(3, -100000.0), 1);
        check.same("value(3)", x.value(3), -100000.0);
        check.same("vertex(3, 100000.0)", x.vertex(3, 100000.0), 1);
        check.same("value(3)", x.value(3), 100000.0);
        check.same("vertex(3, -0.0)", x.vertex(3, -0.0), 1);
        check.same("value(3)", x.value(3), 0.0);
        check.same("vertex(3, the least above 0.0)", x.vertex(3, Double.MIN_VALUE), 1);
        check.same("value(3)", x.value(3), Double.MIN_VALUE);
    }

    @Sentence("value -100000.0 .. 100000.0.")
    static void refusesAValueOutOfRange(Check check) {
        for (double value : Graphs.outside(-100000.0, 100000.0)) {
            PulseGraph x = Graphs.of(4);
            check.refuses(x, "vertex(4, " + value + ")", IllegalArgumentException.class, () -> x.vertex(4, value));
            check.refuses(x, "vertex(5, " + value + ")", IllegalArgumentException.class, () -> x.vertex(5, value));
        }
    }

    @Sentence("It is not IDLE: IllegalStateException.")
    static void refusesWhileRunning(Check check) {
        PulseGraph x = Graphs.running();
        check.refuses(x, "vertex(5, 1.0)", IllegalStateException.class, () -> x.vertex(5, 1.0));
        check.refuses(x, "vertex(0, 1.0)", IllegalStateException.class, () -> x.vertex(0, 1.0));
        check.refuses(x, "vertex(12, 1.0)", IllegalArgumentException.class, () -> x.vertex(12, 1.0));
        check.refuses(x, "vertex(5, NaN)", IllegalArgumentException.class, () -> x.vertex(5, Double.NaN));
        x.stop();
        check.same("vertex(5, 1.0) stopped", x.vertex(5, 1.0), 4);
    }

    @Sentence("It is not IDLE: IllegalStateException.")
    static void refusesWhileBroken(Check check) {
        PulseGraph x = Graphs.lost();
        check.refuses(x, "vertex(5, 1.0) lost", IllegalStateException.class, () -> x.vertex(5, 1.0));
        check.refuses(x, "vertex(-1, 1.0) lost", IllegalArgumentException.class, () -> x.vertex(-1, 1.0));
        PulseGraph y = Graphs.failed();
        check.refuses(y, "vertex(0, 1.0) failed", IllegalStateException.class, () -> y.vertex(0, 1.0));
    }

    @Sentence("The VERTEX is there (if it was not), with that VALUE;")
    static void isThereWithTheValue(Check check) {
        PulseGraph x = Graphs.of(1);
        x.vertex(6, 2.5);
        check.same("value(6)", x.value(6), 2.5);
        check.same("value(1): another keeps its own", x.value(1), 0.0);
        check.same("about(6, 0): new, without edges", x.about(6, 0), 0);
        x.vertex(6, -3.5);
        check.same("value(6): the newer", x.value(6), -3.5);
    }

    @Sentence("The VERTEX is there (if it was not), with that VALUE;")
    static void isThereAgainAfterItWasRemoved(Check check) {
        PulseGraph x = Graphs.ring();
        x.vertex(1, 9.0);
        x.remove(1);
        check.same("vertex(1, 4.0)", x.vertex(1, 4.0), 3);
        check.same("value(1)", x.value(1), 4.0);
        check.same("about(1, 0): its edges went with it", x.about(1, 0), 0);
        check.same("about(0, 0): those to it went too", x.about(0, 0), 0);
        check.same("about(2, 0)", x.about(2, 0), 1);
    }

    @Sentence("its EDGES stay.")
    static void keepsEdgesOfBothWays(Check check) {
        PulseGraph x = Graphs.of(0, 1, 2);
        x.edge(0, 2, 3.0);
        x.edge(0, 1, 4.0);
        x.edge(0, 0, 5.0);
        x.edge(1, 0, 6.0);
        x.vertex(0, 8.0);
        check.same("about(0, 0)", x.about(0, 0), 3);
        check.same("about(0, 3)", x.about(0, 3), 2);
        check.same("about(0, 4)", x.about(0, 4), 1);
        check.same("about(0, 5)", x.about(0, 5), 0);
        check.same("about(1, 3)", x.about(1, 3), 0);
        x.start(1, 0, false);
        x.step(1);
        check.same("message(2, 0): its length stays", x.message(2, 0), 3.0);
        check.same("message(1, 0): its length stays", x.message(1, 0), 4.0);
    }

    @Sentence("Answers how many are there.")
    static void countsUpToTwelve(Check check) {
        PulseGraph x = new PulseGraph();
        for (int v = 11; v >= 0; v--) {
            check.same("vertex(" + v + ", 0.0)", x.vertex(v, 0.0), 12 - v);
        }
        check.same("vertex(5, 1.0) with all there", x.vertex(5, 1.0), 12);
        x.remove(0);
        check.same("vertex(5, 2.0)", x.vertex(5, 2.0), 11);
    }
}
