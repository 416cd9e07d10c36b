@Part("Terms: 0 RANK")
public final class RankTest {
    public static void main(String[] args) throws Exception {
        Sentences.run(RankTest.class);
    }

    /** Vertices 1, 4 and 7 have 2, 3 and 6 edges, the first of each to 0: sums depend on the order. */
    private static PulseGraph orderMatters() {
        return Graphs.link(Graphs.of(0, 1, 2, 3, 4, 5, 6, 7),
                1, 0, 1, 2, 4, 0, 4, 2, 4, 3, 7, 0, 7, 1, 7, 2, 7, 3, 7, 4, 7, 5);
    }

    /** The ranks of this one, too, have another sum if they are added in another order. */
    private static PulseGraph small() {
        return Graphs.link(Graphs.of(0, 1, 2, 3), 0, 1, 0, 2, 1, 2, 2, 0, 3, 2);
    }

    @Sentence("n is how many VERTICES are there when the SUPERSTEP begins.")
    static void countsOneToTwelve(Check check) {
        PulseGraph x = new PulseGraph();
        for (int v = 0; v < 12; v++) {
            x.vertex(v, 3.0);
            x.start(0, 1, false);
            x.step(1);
            check.same("value(0) of " + (v + 1), x.value(0), 1.0 / (v + 1));
            x.step(1);
            check.same("value(0) of " + (v + 1), x.value(0), 0.15 / (v + 1));
        }
    }

    @Sentence("SUPERSTEP 0: its VALUE is 1.0 / n;")
    static void beginsWithEqualShares(Check check) {
        PulseGraph x = small();
        x.vertex(1, -100000.0);
        x.vertex(2, 100000.0);
        x.start(0, 5, false);
        x.step(1);
        for (int v = 0; v < 4; v++) {
            check.same("value(" + v + ")", x.value(v), 0.25);
        }
    }

    @Sentence("later: 0.15 / n + 0.85 * s, s being the sum of m in order, from 0.0.")
    static void addsWithoutMessages(Check check) {
        PulseGraph x = small();
        x.start(0, 5, false);
        x.step(2);
        check.same("value(3)", x.value(3), 0.15 / 4);
        x.step(3);
        check.same("value(3)", x.value(3), 0.15 / 4);
    }

    @Sentence("later: 0.15 / n + 0.85 * s, s being the sum of m in order, from 0.0.")
    static void addsMessagesInOrder(Check check) {
        double share = 1.0 / 8;
        double inOrder = 0.15 / 8 + 0.85 * (0.0 + share / 2 + share / 3 + share / 6);
        double backwards = 0.15 / 8 + 0.85 * (0.0 + share / 6 + share / 3 + share / 2);
        check.that("the order matters here", inOrder != backwards);
        PulseGraph x = orderMatters();
        x.start(0, 5, false);
        x.step(2);
        check.same("value(0)", x.value(0), inOrder);
    }

    @Sentence("later: 0.15 / n + 0.85 * s, s being the sum of m in order, from 0.0.")
    static void goesOnFromStepToStep(Check check) {
        PulseGraph x = small();
        x.start(0, 2, false);
        x.step(2);
        double two = 0.15 / 4 + 0.85 * (0.125 + 0.25 + 0.25);
        check.same("value(2)", x.value(2), two);
        check.same("message(0, 0)", x.message(0, 0), two);
        check.same("step(10)", x.step(10), 1);
        check.same("value(0)", x.value(0), 0.15 / 4 + 0.85 * two);
    }

    @Sentence("It offers its VALUE.")
    static void offersInEachSuperstep(Check check) {
        PulseGraph x = small();
        x.start(0, 1, false);
        x.step(1);
        check.same("aggregate()", x.aggregate(), 1.0);
        x.step(1);
        double sum = x.value(0) + x.value(1) + x.value(2) + x.value(3);
        check.that("the order matters here", sum != x.value(3) + x.value(2) + x.value(1) + x.value(0));
        check.same("aggregate(): in the last superstep too", x.aggregate(), sum);
        check.same("count(0)", x.count(0), PulseGraph.IDLE);
    }

    @Sentence("SUPERSTEP below NUMBER: if it has EDGES it SENDS its VALUE divided by how many;")
    static void sharesItsValueAmongItsEdges(Check check) {
        PulseGraph x = small();
        x.start(0, 1, false);
        x.step(1);
        check.same("message(1, 0)", x.message(1, 0), 0.125);
        check.same("about(2, 1)", x.about(2, 1), 3);
        check.same("message(2, 0)", x.message(2, 0), 0.125);
        check.same("message(2, 1)", x.message(2, 1), 0.25);
        check.same("message(2, 2)", x.message(2, 2), 0.25);
        check.same("about(3, 1)", x.about(3, 1), 0);
    }

    @Sentence("SUPERSTEP below NUMBER: if it has EDGES it SENDS its VALUE divided by how many;")
    static void sharesAmongTwelve(Check check) {
        PulseGraph x = Graphs.full();
        for (int to = 0; to < 12; to++) {
            x.edge(10, to, 1.0);
        }
        x.start(0, 30, false);
        x.step(1);
        for (int to = 0; to < 12; to++) {
            check.same("message(" + to + ", 0)", x.message(to, 0), 1.0 / 12 / 12);
        }
    }

    @Sentence("SUPERSTEP below NUMBER: if it has EDGES it SENDS its VALUE divided by how many;")
    static void sendsNothingFromNumberOn(Check check) {
        PulseGraph x = Graphs.ring();
        x.start(0, 3, false);
        x.step(3);
        check.same("count(4): superstep 2 is below", x.count(4), 3);
        x.step(1);
        check.same("count(0): superstep 3 is not", x.count(0), PulseGraph.IDLE);
        check.same("count(1)", x.count(1), 4);
    }

    @Sentence("SUPERSTEP below NUMBER: if it has EDGES it SENDS its VALUE divided by how many;")
    static void staysAwakeWithoutEdges(Check check) {
        PulseGraph x = Graphs.of(4);
        x.start(0, 2, false);
        x.step(1);
        check.same("count(4)", x.count(4), 0);
        check.same("about(4, 2) in superstep 0", x.about(4, 2), 1);
        x.step(1);
        check.same("about(4, 2) in superstep 1", x.about(4, 2), 1);
        check.same("value(4)", x.value(4), 0.15);
        check.same("step(10)", x.step(10), 1);
    }

    @Sentence("else it SLEEPS.")
    static void sleepsAtOnceWithNumberZero(Check check) {
        PulseGraph x = Graphs.ring();
        x.start(0, 0, false);
        check.same("step(10)", x.step(10), 1);
        check.same("value(2)", x.value(2), 1.0 / 3);
        check.same("aggregate()", x.aggregate(), 1.0 / 3 + 1.0 / 3 + 1.0 / 3);
        check.same("count(0)", x.count(0), PulseGraph.IDLE);
    }

    @Sentence("else it SLEEPS.")
    static void sleepsAfterThirty(Check check) {
        PulseGraph x = Graphs.ring();
        x.start(0, 30, false);
        x.step(10);
        x.step(10);
        x.step(10);
        check.same("count(0)", x.count(0), PulseGraph.RUNNING);
        check.same("about(0, 2)", x.about(0, 2), 1);
        check.same("step(10)", x.step(10), 1);
        check.same("count(1)", x.count(1), 31);
    }
}
