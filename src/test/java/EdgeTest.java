import java.util.NoSuchElementException;

@Part("Promise 3: edge")
public final class EdgeTest {
    public static void main(String[] args) throws Exception {
        Sentences.run(EdgeTest.class);
    }

    @Sentence("length 0.0 .. 1000.0.")
    static void takesTheLeastAndTheGreatestLength(Check check) {
        PulseGraph x = Graphs.of(0, 1, 2, 3);
        check.same("edge(0, 1, 0.0)", x.edge(0, 1, 0.0), 1);
        check.same("edge(0, 2, 1000.0)", x.edge(0, 2, 1000.0), 2);
        check.same("edge(0, 3, -0.0)", x.edge(0, 3, -0.0), 3);
        x.start(1, 0, false);
        x.step(1);
        check.same("message(1, 0)", x.message(1, 0), 0.0);
        check.same("message(2, 0)", x.message(2, 0), 1000.0);
        check.same("message(3, 0)", x.message(3, 0), 0.0);
    }

    @Sentence("length 0.0 .. 1000.0.")
    static void refusesALengthOutOfRange(Check check) {
        PulseGraph x = Graphs.of(0, 1);
        x.edge(0, 1, 7.0);
        for (double length : Graphs.outside(0.0, 1000.0)) {
            check.refuses(x, "edge(0, 1, " + length + ")", IllegalArgumentException.class, () -> x.edge(0, 1, length));
            check.fails("edge(1, 0, " + length + ")", IllegalArgumentException.class, () -> x.edge(1, 0, length));
        }
        check.same("about(1, 0): none was made", x.about(1, 0), 0);
        x.start(1, 0, false);
        x.step(1);
        check.same("message(1, 0): the length as it was", x.message(1, 0), 7.0);
    }

    @Sentence("It is not IDLE: IllegalStateException.")
    static void refusesWhileRunning(Check check) {
        PulseGraph x = Graphs.running();
        check.refuses(x, "edge(0, 2, 1.0)", IllegalStateException.class, () -> x.edge(0, 2, 1.0));
        check.refuses(x, "edge(0, 1, 1.0)", IllegalStateException.class, () -> x.edge(0, 1, 1.0));
        check.refuses(x, "edge(0, 3, 1.0)", NoSuchElementException.class, () -> x.edge(0, 3, 1.0));
        check.refuses(x, "edge(3, 0, 1.0)", NoSuchElementException.class, () -> x.edge(3, 0, 1.0));
        check.refuses(x, "edge(0, 2, -1.0)", IllegalArgumentException.class, () -> x.edge(0, 2, -1.0));
        x.stop();
        check.same("edge(0, 2, 1.0) stopped", x.edge(0, 2, 1.0), 2);
    }

    @Sentence("It is not IDLE: IllegalStateException.")
    static void refusesWhileBroken(Check check) {
        PulseGraph x = Graphs.lost();
        check.refuses(x, "edge(0, 2, 1.0) lost", IllegalStateException.class, () -> x.edge(0, 2, 1.0));
        PulseGraph y = Graphs.failed();
        check.refuses(y, "edge(2, 0, 1.0) failed", IllegalStateException.class, () -> y.edge(2, 0, 1.0));
    }

    @Sentence("There is an EDGE from the first to the second VERTEX with that LENGTH;")
    static void leadsOneWayWithItsLength(Check check) {
        PulseGraph x = Graphs.of(5, 11);
        x.edge(5, 11, 2.5);
        check.same("about(5, 3)", x.about(5, 3), 11);
        check.same("about(11, 0): an edge leads one way", x.about(11, 0), 0);
        x.start(1, 5, false);
        x.step(1);
        check.same("message(11, 0)", x.message(11, 0), 2.5);
        check.same("about(5, 1)", x.about(5, 1), 0);
    }

    @Sentence("There is an EDGE from the first to the second VERTEX with that LENGTH;")
    static void leadsToItself(Check check) {
        PulseGraph x = Graphs.of(5);
        check.same("edge(5, 5, 1.0)", x.edge(5, 5, 1.0), 1);
        check.same("about(5, 3)", x.about(5, 3), 5);
    }

    @Sentence("There is an EDGE from the first to the second VERTEX with that LENGTH;")
    static void refusesVerticesOutOfRange(Check check) {
        PulseGraph x = Graphs.of(0, 11);
        for (int v : Graphs.outside(0, 11)) {
            check.refuses(x, "edge(" + v + ", 0, 1.0)", IllegalArgumentException.class, () -> x.edge(v, 0, 1.0));
            check.refuses(x, "edge(0, " + v + ", 1.0)", IllegalArgumentException.class, () -> x.edge(0, v, 1.0));
        }
    }

    @Sentence("There is an EDGE from the first to the second VERTEX with that LENGTH;")
    static void refusesVerticesThatAreNotThere(Check check) {
        PulseGraph x = Graphs.of(0, 1);
        x.remove(1);
        check.refuses(x, "edge(0, 3, 1.0)", NoSuchElementException.class, () -> x.edge(0, 3, 1.0));
        check.refuses(x, "edge(3, 0, 1.0)", NoSuchElementException.class, () -> x.edge(3, 0, 1.0));
        check.refuses(x, "edge(3, 3, 1.0)", NoSuchElementException.class, () -> x.edge(3, 3, 1.0));
        check.refuses(x, "edge(0, 1, 1.0): removed", NoSuchElementException.class, () -> x.edge(0, 1, 1.0));
        check.refuses(x, "edge(3, 12, 1.0)", IllegalArgumentException.class, () -> x.edge(3, 12, 1.0));
        check.refuses(x, "edge(3, 0, 1001.0)", IllegalArgumentException.class, () -> x.edge(3, 0, 1001.0));
    }

    @Sentence("one that was there keeps its place.")
    static void keepsThePlaceButNotTheLength(Check check) {
        PulseGraph x = Graphs.of(0, 1, 2, 3);
        x.edge(0, 3, 5.0);
        x.edge(0, 1, 6.0);
        x.edge(0, 2, 7.0);
        check.same("edge(0, 3, 8.0) again", x.edge(0, 3, 8.0), 3);
        check.same("edge(0, 1, 9.0) again", x.edge(0, 1, 9.0), 3);
        check.same("about(0, 3)", x.about(0, 3), 3);
        check.same("about(0, 4)", x.about(0, 4), 1);
        check.same("about(0, 5)", x.about(0, 5), 2);
        check.same("about(0, 6)", x.about(0, 6), -1);
        x.start(1, 0, false);
        x.step(1);
        check.same("message(3, 0): the newer length", x.message(3, 0), 8.0);
        check.same("message(1, 0): the newer length", x.message(1, 0), 9.0);
        check.same("message(2, 0): the only length", x.message(2, 0), 7.0);
    }

    @Sentence("Answers how many EDGES the first has.")
    static void countsUpToTwelve(Check check) {
        PulseGraph x = Graphs.full();
        for (int from = 0; from < 12; from++) {
            for (int to = 11; to >= 0; to--) {
                check.same("edge(" + from + ", " + to + ", 1.0)", x.edge(from, to, 1.0), 12 - to);
            }
        }
        check.same("edge(11, 11, 2.0) with all there", x.edge(11, 11, 2.0), 12);
        check.same("about(11, 14): the last place", x.about(11, 14), 0);
    }
}
