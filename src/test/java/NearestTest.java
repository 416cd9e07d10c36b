@Part("Terms: 1 NEAREST")
public final class NearestTest {
    public static void main(String[] args) throws Exception {
        Sentences.run(NearestTest.class);
    }

    /** From 2 there are a long way and two short ones to 0; 3 is out of reach. */
    private static PulseGraph ways() {
        PulseGraph x = Graphs.of(0, 1, 2, 3);
        x.edge(2, 0, 10.0);
        x.edge(2, 1, 3.0);
        x.edge(1, 0, 4.0);
        x.edge(0, 2, 1.0);
        return x;
    }

    /** Two edges from 0 over 1 to 2. */
    private static PulseGraph path(double first, double second) {
        PulseGraph x = Graphs.of(0, 1, 2);
        x.edge(0, 1, first);
        x.edge(1, 2, second);
        return x;
    }

    @Sentence("least is the least of m,")
    static void takesTheLeastWhereverItStands(Check check) {
        for (int best = 1; best < 4; best++) {
            PulseGraph x = Graphs.of(0, 1, 2, 3, 4);
            for (int v = 1; v < 4; v++) {
                x.edge(0, v, 1.0);
                x.edge(v, 4, v == best ? 2.0 : 5.0 + v);
            }
            x.start(1, 0, false);
            x.step(2);
            check.same("about(4, 1)", x.about(4, 1), 3);
            x.step(1);
            check.same("value(4)", x.value(4), 3.0);
        }
    }

    @Sentence("and for VERTEX NUMBER in SUPERSTEP 0: 0.0;")
    static void beginsAtTheLeastAndTheGreatestVertex(Check check) {
        for (int source = 0; source < 12; source += 11) {
            PulseGraph x = Graphs.of(0, 11);
            x.start(1, source, false);
            x.step(1);
            check.same("value(0)", x.value(0), source == 0 ? 0.0 : 1000000.0);
            check.same("value(11)", x.value(11), source == 11 ? 0.0 : 1000000.0);
        }
    }

    @Sentence("and for VERTEX NUMBER in SUPERSTEP 0: 0.0;")
    static void sendsFromTheSourceOnlyOnce(Check check) {
        PulseGraph x = Graphs.of(0);
        x.edge(0, 0, 0.0);
        x.start(1, 0, false);
        x.step(1);
        check.same("message(0, 0)", x.message(0, 0), 0.0);
        check.same("step(10): 0.0 is not below 0.0", x.step(10), 1);
        check.same("aggregate(): none offered", x.aggregate(), 1000000.0);
    }

    @Sentence("without any of both 1000000.0.")
    static void hasNoSourceAboveEleven(Check check) {
        for (int number : new int[] {12, 13, 30}) {
            PulseGraph x = Graphs.ring();
            x.vertex(0, 5.0);
            x.start(1, number, false);
            check.same("step(10)", x.step(10), 1);
            check.same("value(0)", x.value(0), 1000000.0);
            check.same("aggregate()", x.aggregate(), 1000000.0);
            check.same("count(1)", x.count(1), 1);
        }
    }

    @Sentence("without any of both 1000000.0.")
    static void hasNoSourceThatIsNotThere(Check check) {
        PulseGraph x = Graphs.ring();
        x.start(1, 3, false);
        check.same("step(10)", x.step(10), 1);
        for (int v = 0; v < 3; v++) {
            check.same("value(" + v + ")", x.value(v), 1000000.0);
        }
    }

    @Sentence("SUPERSTEP 0: its VALUE is 1000000.0 first.")
    static void forgetsTheValuesOfBefore(Check check) {
        PulseGraph x = ways();
        for (int v = 0; v < 4; v++) {
            x.vertex(v, -100000.0);
        }
        x.start(1, 2, false);
        check.same("value(3) before the step", x.value(3), -100000.0);
        x.step(1);
        check.same("value(2): the source", x.value(2), 0.0);
        check.same("value(0)", x.value(0), 1000000.0);
        check.same("value(3)", x.value(3), 1000000.0);
    }

    @Sentence("SUPERSTEP 0: its VALUE is 1000000.0 first.")
    static void isNotSetAgainLater(Check check) {
        PulseGraph x = ways();
        x.start(1, 2, false);
        check.same("step(10)", x.step(10), 4);
        check.same("value(0)", x.value(0), 7.0);
        check.same("value(1)", x.value(1), 3.0);
        check.same("value(2)", x.value(2), 0.0);
        check.same("value(3): not reached", x.value(3), 1000000.0);
    }

    @Sentence("If least is below its VALUE: its VALUE is that, it offers it,")
    static void offersWhatIsBelow(Check check) {
        PulseGraph x = ways();
        x.start(1, 2, false);
        x.step(1);
        check.same("aggregate()", x.aggregate(), 0.0);
        x.step(1);
        check.same("value(0)", x.value(0), 10.0);
        check.same("aggregate(): the least of 10.0 and 3.0", x.aggregate(), 3.0);
        x.step(1);
        check.same("value(0)", x.value(0), 7.0);
        check.same("aggregate()", x.aggregate(), 7.0);
    }

    @Sentence("If least is below its VALUE: its VALUE is that, it offers it,")
    static void ignoresWhatIsEqual(Check check) {
        PulseGraph x = Graphs.of(0, 1, 2, 3);
        x.edge(0, 1, 2.0);
        x.edge(0, 2, 1.0);
        x.edge(2, 1, 1.0);
        x.edge(1, 3, 1.0);
        x.start(1, 0, false);
        x.step(2);
        check.same("value(1)", x.value(1), 2.0);
        check.same("message(1, 0): the same again", x.message(1, 0), 2.0);
        x.step(1);
        check.same("aggregate(): only 3 offered", x.aggregate(), 3.0);
        check.same("count(0): nothing was sent", x.count(0), PulseGraph.IDLE);
    }

    @Sentence("and along each EDGE it sends its VALUE plus the LENGTH;")
    static void sendsAlongEachEdge(Check check) {
        PulseGraph x = Graphs.full();
        for (int to = 0; to < 12; to++) {
            x.edge(5, to, to * 0.5);
        }
        x.start(1, 5, false);
        x.step(1);
        check.same("count(4)", x.count(4), 12);
        for (int to = 0; to < 12; to++) {
            check.same("message(" + to + ", 0)", x.message(to, 0), to * 0.5);
        }
    }

    @Sentence("and along each EDGE it sends its VALUE plus the LENGTH;")
    static void sendsTheNewValue(Check check) {
        PulseGraph x = path(0.25, 0.5);
        x.start(1, 0, false);
        x.step(2);
        check.same("message(2, 0)", x.message(2, 0), 0.75);
        check.same("about(0, 1)", x.about(0, 1), 0);
    }

    @Sentence("it FAILS if that is above 1500.0.")
    static void doesNotFailAtTheLimit(Check check) {
        PulseGraph x = path(1000.0, 500.0);
        x.start(1, 0, false);
        check.same("step(10)", x.step(10), 3);
        check.same("value(2)", x.value(2), 1500.0);
    }

    @Sentence("it FAILS if that is above 1500.0.")
    static void failsJustAboveTheLimit(Check check) {
        double above = Math.nextUp(1500.0) - 1000.0;
        PulseGraph x = path(1000.0, above);
        x.start(1, 0, false);
        check.fails("step(10)", UnsupportedOperationException.class, () -> x.step(10));
        check.same("count(0)", x.count(0), PulseGraph.BROKEN);
        check.same("count(1)", x.count(1), 1);
        check.same("value(1)", x.value(1), 1000000.0);
    }

    @Sentence("it FAILS if that is above 1500.0.")
    static void failsByAnyOfItsEdges(Check check) {
        for (int bad = 2; bad < 5; bad++) {
            PulseGraph x = Graphs.of(0, 1, 2, 3, 4);
            x.edge(0, 1, 1000.0);
            for (int to = 2; to < 5; to++) {
                x.edge(1, to, to == bad ? 501.0 : 1.0);
            }
            x.start(1, 0, true);
            check.fails("step(10)", UnsupportedOperationException.class, () -> x.step(10));
            check.same("count(4): nothing more was sent", x.count(4), 1);
        }
    }

    @Sentence("it FAILS if that is above 1500.0.")
    static void doesNotFailWithoutSending(Check check) {
        PulseGraph x = Graphs.of(0, 1, 2, 3);
        x.edge(0, 1, 1000.0);
        x.edge(1, 2, 500.0);
        x.edge(2, 3, 0.0);
        x.edge(3, 0, 0.0);
        x.start(1, 0, false);
        check.same("step(10): 0 has 1500.0 before it and sends nothing", x.step(10), 5);
        check.same("value(3)", x.value(3), 1500.0);
    }

    @Sentence("It SLEEPS.")
    static void sleepsAtOnce(Check check) {
        PulseGraph x = path(1.0, 1.0);
        x.start(1, 0, false);
        x.step(1);
        for (int v = 0; v < 3; v++) {
            check.same("about(" + v + ", 2)", x.about(v, 2), 0);
        }
        check.same("count(0): a message is under way", x.count(0), PulseGraph.RUNNING);
        x.step(1);
        check.same("about(1, 2): asleep again", x.about(1, 2), 0);
    }
}
