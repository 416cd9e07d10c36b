import java.util.NoSuchElementException;

@Part("Terms")
public final class GraphTermsTest {
    public static void main(String[] args) throws Exception {
        Sentences.run(GraphTermsTest.class);
    }

    @Sentence("VERTICES 0 .. 11 are there or not (not at first).")
    static void areNotThereAtFirst(Check check) {
        PulseGraph x = new PulseGraph();
        for (int vertex = 0; vertex < 12; vertex++) {
            int v = vertex;
            check.fails("about(" + v + ", 0)", NoSuchElementException.class, () -> x.about(v, 0));
            check.fails("remove(" + v + ")", NoSuchElementException.class, () -> x.remove(v));
        }
    }

    @Sentence("VERTICES 0 .. 11 are there or not (not at first).")
    static void areThereEachForItself(Check check) {
        PulseGraph x = new PulseGraph();
        for (int vertex = 0; vertex < 12; vertex += 2) {
            x.vertex(vertex, 1.0);
        }
        for (int vertex = 0; vertex < 12; vertex++) {
            int v = vertex;
            String due = v % 2 == 0 ? "1.0" : "throws.NoSuchElementException";
            check.that("value(" + v + ") gives " + due, Check.outcome(() -> x.value(v)).equals(due));
        }
    }

    @Sentence("One that is has a VALUE, a double,")
    static void hasAnyDoubleInRange(Check check) {
        PulseGraph x = new PulseGraph();
        for (double value : new double[] {0.1, -1.0 / 3, Double.MIN_VALUE, 99999.999999999985, 4.9e-300}) {
            x.vertex(2, value);
            check.same("value(2)", x.value(2), value);
        }
    }

    @Sentence("and EDGES, in the order in which they were made, to VERTICES that are there,")
    static void hasEdgesInTheOrderOfMaking(Check check) {
        PulseGraph x = Graphs.of(0, 3, 6, 9);
        x.edge(3, 9, 1.0);
        x.edge(3, 0, 1.0);
        x.edge(3, 6, 1.0);
        check.same("about(3, 3)", x.about(3, 3), 9);
        check.same("about(3, 4)", x.about(3, 4), 0);
        check.same("about(3, 5)", x.about(3, 5), 6);
        x.remove(9);
        x.vertex(9, 0.0);
        x.edge(3, 9, 1.0);
        check.same("about(3, 3)", x.about(3, 3), 0);
        check.same("about(3, 5): made anew, the last", x.about(3, 5), 9);
        check.refuses(x, "edge(3, 1, 1.0)", NoSuchElementException.class, () -> x.edge(3, 1, 1.0));
    }

    @Sentence("at most one to each (itself too),")
    static void hasOneEdgeToEach(Check check) {
        PulseGraph x = Graphs.of(4, 5);
        x.edge(4, 5, 1.0);
        x.edge(4, 4, 2.0);
        x.edge(4, 5, 3.0);
        x.edge(4, 4, 4.0);
        check.same("about(4, 0)", x.about(4, 0), 2);
        x.start(1, 4, false);
        x.step(1);
        check.same("about(5, 1)", x.about(5, 1), 1);
        check.same("message(5, 0)", x.message(5, 0), 3.0);
        check.same("about(4, 1)", x.about(4, 1), 1);
        check.same("message(4, 0)", x.message(4, 0), 4.0);
    }

    @Sentence("each with a LENGTH, a double of 0.0 or above.")
    static void hasALengthOfItsOwn(Check check) {
        PulseGraph x = Graphs.of(0, 1, 2);
        x.edge(0, 1, Double.MIN_VALUE);
        x.edge(0, 2, 0.1);
        x.start(1, 0, false);
        x.step(1);
        check.same("message(1, 0)", x.message(1, 0), Double.MIN_VALUE);
        check.same("message(2, 0)", x.message(2, 0), 0.1);
        x.stop();
        check.refuses(x, "edge(0, 1, below 0.0)", IllegalArgumentException.class,
                () -> x.edge(0, 1, -Double.MIN_VALUE));
    }

    @Sentence("VERTEX v lies on WORKER v % 3.")
    static void lieOnThreeWorkers(Check check) {
        for (int worker = 0; worker < 3; worker++) {
            PulseGraph x = Graphs.full();
            x.start(0, 9, false);
            x.step(1);
            x.lose(worker);
            for (int v = 0; v < 12; v++) {
                check.same("value(" + v + ")", x.value(v), v % 3 == worker ? 0.0 : 1.0 / 12);
            }
        }
    }

    @Sentence("The machine is IDLE (at first), RUNNING or BROKEN.")
    static void hasThreeStates(Check check) {
        PulseGraph x = new PulseGraph();
        check.same("count(0) at first", x.count(0), PulseGraph.IDLE);
        x.vertex(0, 0.0);
        x.start(0, 9, false);
        check.same("count(0)", x.count(0), PulseGraph.RUNNING);
        x.lose(0);
        check.same("count(0)", x.count(0), PulseGraph.BROKEN);
    }

    @Sentence("RUNNING or BROKEN it has a PROGRAM, a NUMBER (an int), whether it COMBINES,")
    static void keepsWhatWasStartedWhileBroken(Check check) {
        PulseGraph x = Graphs.link(Graphs.of(0, 1, 2, 4), 1, 0, 4, 0, 2, 0, 0, 1);
        x.start(0, 4, true);
        x.save();
        x.step(1);
        check.same("about(0, 1) combined", x.about(0, 1), 2);
        x.lose(0);
        x.recover();
        x.step(1);
        check.same("value(0): the program stays", x.value(0), 0.25);
        check.same("about(0, 1): it combines still", x.about(0, 1), 2);
        check.same("step(10): the number stays", x.step(10), 4);
    }

    @Sentence("RUNNING or BROKEN it has a PROGRAM, a NUMBER (an int), whether it COMBINES,")
    static void takesTheNewOnesOfEachStart(Check check) {
        PulseGraph x = Graphs.link(Graphs.of(0, 1, 4), 1, 0, 4, 0);
        x.start(0, 9, true);
        x.step(1);
        check.same("about(0, 1)", x.about(0, 1), 1);
        x.stop();
        x.start(1, 4, false);
        x.step(1);
        check.same("value(4)", x.value(4), 0.0);
        x.stop();
        x.start(0, 0, false);
        check.same("step(10)", x.step(10), 1);
        x.start(2, 0, false);
        x.step(1);
        check.same("about(0, 1): it combines no more", x.about(0, 1), 2);
    }

    @Sentence("a SUPERSTEP, 0 at first,")
    static void beginsWithSuperstepZero(Check check) {
        PulseGraph x = Graphs.running();
        check.same("count(1)", x.count(1), 1);
        x.stop();
        x.start(0, 9, false);
        check.same("count(1) started anew", x.count(1), 0);
    }

    @Sentence("and each VERTEX is AWAKE or not;")
    static void isAwakeEachForItself(Check check) {
        PulseGraph x = Graphs.ring();
        x.start(0, 1, false);
        for (int v = 0; v < 3; v++) {
            check.same("about(" + v + ", 2)", x.about(v, 2), 1);
        }
        x.stop();
        x.start(2, 0, false);
        x.step(1);
        for (int v = 0; v < 3; v++) {
            check.same("about(" + v + ", 2)", x.about(v, 2), 0);
        }
    }

    @Sentence("and MESSAGES, doubles, for VERTICES, in an order for each.")
    static void hasMessagesForEach(Check check) {
        PulseGraph x = Graphs.link(Graphs.of(0, 1, 2), 0, 2, 1, 2, 2, 1);
        x.vertex(0, 0.1);
        x.vertex(1, -0.2);
        x.vertex(2, 0.3);
        x.start(2, 0, false);
        x.step(1);
        check.same("message(2, 0)", x.message(2, 0), 0.1);
        check.same("message(2, 1)", x.message(2, 1), -0.2);
        check.same("message(1, 0)", x.message(1, 0), 0.3);
        check.same("about(0, 1)", x.about(0, 1), 0);
    }

    @Sentence("The AGGREGATE is a double.")
    static void hasADoubleAsAggregate(Check check) {
        PulseGraph x = new PulseGraph();
        x.vertex(3, -0.1);
        x.start(2, 0, false);
        x.step(1);
        check.same("aggregate()", x.aggregate(), -0.1);
    }
}
