import java.util.NoSuchElementException;

@Part("Terms")
public final class StepTermsTest {
    public static void main(String[] args) throws Exception {
        Sentences.run(StepTermsTest.class);
    }

    @Sentence("PROGRAMS do this for a VERTEX; m are its MESSAGES;")
    static void takesOnlyItsOwnMessages(Check check) {
        PulseGraph x = Graphs.link(Graphs.of(0, 1, 2, 3), 0, 2, 1, 3);
        x.vertex(0, 5.0);
        x.vertex(1, 6.0);
        x.start(2, 0, false);
        x.step(2);
        check.same("value(2)", x.value(2), 5.0);
        check.same("value(3)", x.value(3), 6.0);
    }

    @Sentence("to SEND x is to send it along each EDGE, in their order;")
    static void sendsAlongNoneToTwelve(Check check) {
        PulseGraph x = Graphs.full();
        for (int edges = 0; edges < 13; edges++) {
            x.vertex(6, edges);
            x.start(2, 0, false);
            x.step(1);
            check.same("count(4) of " + edges, x.count(4), edges);
            if (edges > 0) {
                check.same("message(" + (12 - edges) + ", 0)", x.message(12 - edges, 0), edges);
                x.stop();
            }
            if (edges < 12) {
                x.edge(6, 11 - edges, 1.0);
            }
        }
    }

    @Sentence("to SLEEP is to be AWAKE no more after this.")
    static void sleepsUntilAMessageComes(Check check) {
        PulseGraph x = Graphs.link(Graphs.of(0, 1, 2), 0, 1, 1, 2);
        x.start(1, 0, false);
        x.step(1);
        check.same("about(0, 2)", x.about(0, 2), 0);
        check.same("about(1, 2)", x.about(1, 2), 0);
        x.step(1);
        check.same("value(1): it computed", x.value(1), 1.0);
        check.same("about(1, 2): and sleeps", x.about(1, 2), 0);
    }

    @Sentence("A STEP: the VERTICES that are there and AWAKE or have MESSAGES, by rising numbers, "
            + "are AWAKE and do the PROGRAM.")
    static void computesOnlyTheAwakeAndThoseWithMessages(Check check) {
        PulseGraph x = Graphs.link(Graphs.of(0, 1, 2, 3), 0, 1);
        x.vertex(3, 60.0);
        x.start(2, 0, false);
        x.step(1);
        check.same("aggregate(): all computed", x.aggregate(), 60.0);
        x.step(1);
        check.same("aggregate(): 1 alone did", x.aggregate(), 0.0);
    }

    @Sentence("A STEP: the VERTICES that are there and AWAKE or have MESSAGES, by rising numbers, "
            + "are AWAKE and do the PROGRAM.")
    static void computesByRisingNumbers(Check check) {
        PulseGraph x = new PulseGraph();
        for (int v = 11; v >= 0; v--) {
            x.vertex(v, 10.0 * v);
        }
        for (int v = 11; v >= 0; v--) {
            x.edge(v, 5, 1.0);
        }
        x.start(2, 0, false);
        x.step(1);
        for (int i = 0; i < 12; i++) {
            check.same("message(5, " + i + ")", x.message(5, i), 10.0 * i);
        }
    }

    @Sentence("MESSAGES sent are had from the end of the STEP on;")
    static void arriveAtTheEnd(Check check) {
        PulseGraph x = Graphs.link(Graphs.of(0, 1, 2), 0, 1, 1, 2);
        x.vertex(0, 9.0);
        x.start(2, 0, false);
        check.same("count(4) before", x.count(4), 0);
        x.step(1);
        check.same("value(1): 9.0 was not had in this step", x.value(1), 0.0);
        check.same("message(1, 0): but at its end", x.message(1, 0), 9.0);
        x.step(1);
        check.same("value(1)", x.value(1), 9.0);
        check.same("value(2)", x.value(2), 0.0);
        check.same("message(2, 0)", x.message(2, 0), 9.0);
    }

    @Sentence("those had before are gone.")
    static void areGoneAfterOneStep(Check check) {
        PulseGraph x = Graphs.link(Graphs.of(0, 1, 2), 0, 1, 1, 2);
        x.vertex(0, 9.0);
        x.start(2, 0, false);
        x.step(2);
        check.same("about(1, 1)", x.about(1, 1), 0);
        check.same("about(2, 1): not beside the one of before", x.about(2, 1), 1);
        check.same("count(4)", x.count(4), 1);
    }

    @Sentence("Then REMOVED ones are there no more, nor are EDGES to them and MESSAGES for them.")
    static void leavesNothingOfTheRemoved(Check check) {
        PulseGraph x = Graphs.link(Graphs.of(0, 1, 2), 0, 2, 0, 1, 1, 0, 2, 0, 0, 0, 1, 1);
        x.start(3, 2, false);
        x.step(1);
        check.same("about(2, 1)", x.about(2, 1), 1);
        x.step(1);
        check.fails("value(2)", NoSuchElementException.class, () -> x.value(2));
        check.fails("message(2, 0)", NoSuchElementException.class, () -> x.message(2, 0));
        check.fails("about(2, 0)", NoSuchElementException.class, () -> x.about(2, 0));
        check.same("count(2)", x.count(2), 2);
        check.same("about(0, 0)", x.about(0, 0), 2);
        check.same("about(0, 3): the rest move up", x.about(0, 3), 1);
        check.same("about(0, 4)", x.about(0, 4), 0);
        x.step(1);
        check.same("count(4): none for or by the removed", x.count(4), 4);
    }

    @Sentence("Then REMOVED ones are there no more, nor are EDGES to them and MESSAGES for them.")
    static void canBeMadeAnew(Check check) {
        PulseGraph x = Graphs.ring();
        x.start(3, 2, false);
        x.step(2);
        check.same("vertex(0, 4.0)", x.vertex(0, 4.0), 1);
        check.same("about(0, 0)", x.about(0, 0), 0);
        x.start(2, 0, false);
        check.same("about(0, 1)", x.about(0, 1), 0);
        check.same("step(10): it is not removed again", x.step(10), 1);
        check.same("value(0)", x.value(0), 4.0);
    }

    @Sentence("Then REMOVED ones are there no more, nor are EDGES to them and MESSAGES for them.")
    static void removesAtTheEndOfTheStep(Check check) {
        PulseGraph x = Graphs.link(Graphs.of(0, 1, 2, 3), 0, 1, 2, 3, 3, 2, 2, 2, 3, 3);
        x.start(3, 2, false);
        x.step(2);
        check.same("count(2): both 0 and 1 in the same step", x.count(2), 2);
        check.same("aggregate()", x.aggregate(), 2.0);
        check.same("value(2)", x.value(2), 2.0);
    }

    @Sentence("SUPERSTEP rises by 1.")
    static void risesByOne(Check check) {
        PulseGraph x = Graphs.ring();
        x.start(0, 30, false);
        for (int i = 0; i < 31; i++) {
            check.same("count(1)", x.count(1), i);
            x.step(1);
        }
        check.same("count(1): in the last step too", x.count(1), 31);
    }

    @Sentence("No VERTEX is AWAKE or has MESSAGES: the machine is IDLE.")
    static void isIdleAtTheEnd(Check check) {
        PulseGraph x = Graphs.of(1);
        x.start(2, 0, false);
        x.step(1);
        check.same("count(0)", x.count(0), PulseGraph.IDLE);
    }

    @Sentence("No VERTEX is AWAKE or has MESSAGES: the machine is IDLE.")
    static void runsOnByOneMessage(Check check) {
        PulseGraph x = Graphs.link(Graphs.of(10, 11), 10, 11);
        x.start(1, 10, false);
        x.step(1);
        check.same("count(4)", x.count(4), 1);
        check.same("about(11, 2)", x.about(11, 2), 0);
        check.same("count(0)", x.count(0), PulseGraph.RUNNING);
        x.step(1);
        check.same("count(0)", x.count(0), PulseGraph.IDLE);
    }

    @Sentence("No VERTEX is AWAKE or has MESSAGES: the machine is IDLE.")
    static void runsOnByOneAwake(Check check) {
        PulseGraph x = Graphs.of(11);
        x.start(0, 1, false);
        x.step(1);
        check.same("count(4)", x.count(4), 0);
        check.same("count(0)", x.count(0), PulseGraph.RUNNING);
    }

    @Sentence("No VERTEX is AWAKE or has MESSAGES: the machine is IDLE.")
    static void isIdleWithoutVertices(Check check) {
        PulseGraph x = Graphs.of(0, 11);
        x.start(3, 30, false);
        x.step(2);
        check.same("count(2)", x.count(2), 0);
        check.same("count(0)", x.count(0), PulseGraph.IDLE);
    }

    @Sentence("The AGGREGATE becomes, from what was offered in order, in 0 and 3 the sum, from 0.0,")
    static void addsOffersInOrder(Check check) {
        PulseGraph x = Graphs.link(Graphs.of(0, 1, 2, 3), 0, 1, 0, 2, 1, 2, 2, 0, 3, 2);
        x.start(0, 9, false);
        x.step(2);
        double sum = 0.0 + x.value(0) + x.value(1) + x.value(2) + x.value(3);
        check.that("the order matters here", sum != x.value(3) + x.value(2) + x.value(1) + x.value(0));
        check.same("aggregate()", x.aggregate(), sum);
    }

    @Sentence("The AGGREGATE becomes, from what was offered in order, in 0 and 3 the sum, from 0.0,")
    static void addsNoneToZeroInCore(Check check) {
        PulseGraph x = Graphs.ring();
        x.start(3, 1, false);
        x.step(2);
        check.same("aggregate()", x.aggregate(), 0.0);
        check.same("count(0)", x.count(0), PulseGraph.RUNNING);
    }

    @Sentence("in 1 the least, 1000000.0 without any,")
    static void takesTheLeastOffer(Check check) {
        PulseGraph x = Graphs.of(0, 1, 2, 3);
        x.edge(0, 1, 5.0);
        x.edge(0, 2, 4.0);
        x.edge(0, 3, 6.0);
        x.edge(2, 0, 1.0);
        x.start(1, 0, false);
        x.step(1);
        check.same("aggregate()", x.aggregate(), 0.0);
        x.step(1);
        check.same("aggregate()", x.aggregate(), 4.0);
        x.step(1);
        check.same("aggregate(): without any", x.aggregate(), 1000000.0);
    }

    @Sentence("in 2 the greatest, 0.0 without any;")
    static void takesTheGreatestOfferBelowZeroToo(Check check) {
        PulseGraph x = Graphs.of(3, 4, 5);
        x.vertex(3, -7.0);
        x.vertex(4, -5.0);
        x.vertex(5, -6.0);
        x.start(2, 0, false);
        x.step(1);
        check.same("aggregate()", x.aggregate(), -5.0);
    }

    @Sentence("in even SUPERSTEPS of 3 it stays.")
    static void staysInEvenSuperstepsOfCore(Check check) {
        PulseGraph x = Graphs.link(Graphs.of(0, 1, 2, 3), 0, 0, 1, 0);
        x.start(3, 1, false);
        x.step(1);
        check.same("aggregate(): of the start", x.aggregate(), 1.0);
        x.step(1);
        check.same("aggregate()", x.aggregate(), 3.0);
        x.step(1);
        check.same("aggregate(): of the step before", x.aggregate(), 3.0);
        x.step(1);
        check.same("aggregate()", x.aggregate(), 0.0);
        x.step(1);
        check.same("aggregate(): of the step before", x.aggregate(), 0.0);
    }

    @Sentence("The MESSAGES for a VERTEX are in the order in which they were sent;")
    static void areInTheOrderOfSending(Check check) {
        PulseGraph x = Graphs.link(Graphs.of(1, 2, 3, 6), 6, 3, 3, 3, 2, 3, 1, 3);
        x.vertex(1, 10.0);
        x.vertex(2, 20.0);
        x.vertex(3, 30.0);
        x.vertex(6, 15.0);
        x.start(2, 0, false);
        x.step(1);
        check.same("message(3, 0)", x.message(3, 0), 10.0);
        check.same("message(3, 1)", x.message(3, 1), 20.0);
        check.same("message(3, 2)", x.message(3, 2), 30.0);
        check.same("message(3, 3)", x.message(3, 3), 15.0);
    }

    @Sentence("if it COMBINES: those sent by VERTICES of one WORKER are one,")
    static void areOneForEachWorkerThatSent(Check check) {
        PulseGraph x = Graphs.link(Graphs.of(0, 1, 4, 7, 10, 11), 1, 0, 4, 0, 7, 0, 10, 0, 11, 1);
        x.start(3, 1, true);
        x.step(1);
        check.same("about(0, 1): worker 1 alone", x.about(0, 1), 1);
        check.same("message(0, 0)", x.message(0, 0), 4.0);
        check.same("about(1, 1): worker 2 alone", x.about(1, 1), 1);
        check.same("message(1, 0): of one sender", x.message(1, 0), 1.0);
        check.same("about(4, 1)", x.about(4, 1), 0);
        check.same("count(4)", x.count(4), 2);
    }

    @Sentence("for 0 and 3 the sum (the first, then the next added),")
    static void areAddedInOrder(Check check) {
        PulseGraph x = Graphs.link(Graphs.of(0, 1, 2, 3, 4, 5, 6, 7),
                1, 0, 1, 2, 4, 0, 4, 2, 4, 3, 7, 0, 7, 1, 7, 2, 7, 3, 7, 4, 7, 5);
        double share = 1.0 / 8;
        double sum = share / 2 + share / 3 + share / 6;
        check.that("the order matters here", sum != share / 6 + share / 3 + share / 2);
        x.start(0, 5, true);
        x.step(1);
        check.same("about(0, 1)", x.about(0, 1), 1);
        check.same("message(0, 0)", x.message(0, 0), sum);
        x.step(1);
        check.same("value(0)", x.value(0), 0.15 / 8 + 0.85 * sum);
    }

    @Sentence("for 0 and 3 the sum (the first, then the next added),")
    static void areAddedInCore(Check check) {
        PulseGraph x = Graphs.link(Graphs.of(0, 1, 2, 4, 7), 1, 0, 4, 0, 7, 0, 2, 0);
        x.start(3, 4, true);
        x.step(1);
        check.same("message(0, 0)", x.message(0, 0), 3.0);
        check.same("message(0, 1)", x.message(0, 1), 1.0);
        x.step(1);
        check.same("value(0): not below 4", x.value(0), 4.0);
        check.same("count(2)", x.count(2), 1);
    }

    @Sentence("for 1 the least,")
    static void areTheLeastInNearest(Check check) {
        PulseGraph x = Graphs.of(0, 1, 2, 4, 7, 8);
        x.edge(0, 1, 1.0);
        x.edge(0, 4, 1.0);
        x.edge(0, 7, 1.0);
        x.edge(0, 2, 1.0);
        x.edge(1, 8, 9.0);
        x.edge(4, 8, 5.0);
        x.edge(7, 8, 6.0);
        x.edge(2, 8, 7.0);
        x.start(1, 0, true);
        x.step(2);
        check.same("about(8, 1)", x.about(8, 1), 2);
        check.same("message(8, 0)", x.message(8, 0), 6.0);
        check.same("message(8, 1)", x.message(8, 1), 8.0);
        x.step(1);
        check.same("value(8)", x.value(8), 6.0);
    }

    @Sentence("for 2 the greatest;")
    static void areTheGreatestInGreatest(Check check) {
        PulseGraph x = Graphs.link(Graphs.of(0, 1, 4, 6, 7), 0, 0, 1, 0, 4, 0, 6, 0, 7, 0);
        x.vertex(0, -1.0);
        x.vertex(1, -4.0);
        x.vertex(4, -3.0);
        x.vertex(7, -5.0);
        x.vertex(6, -2.0);
        x.start(2, 0, true);
        x.step(1);
        check.same("about(0, 1)", x.about(0, 1), 2);
        check.same("message(0, 0)", x.message(0, 0), -1.0);
        check.same("message(0, 1)", x.message(0, 1), -3.0);
    }

    @Sentence("and these are in the order of WORKERS.")
    static void areInTheOrderOfWorkers(Check check) {
        PulseGraph x = Graphs.link(Graphs.of(1, 2, 3, 6), 6, 3, 3, 3, 2, 3, 1, 3);
        x.vertex(1, 10.0);
        x.vertex(2, 20.0);
        x.vertex(3, 30.0);
        x.vertex(6, 60.0);
        x.start(2, 0, true);
        x.step(1);
        check.same("about(3, 1)", x.about(3, 1), 3);
        check.same("message(3, 0): of worker 0", x.message(3, 0), 60.0);
        check.same("message(3, 1): of worker 1", x.message(3, 1), 10.0);
        check.same("message(3, 2): of worker 2", x.message(3, 2), 20.0);
    }

    @Sentence("FAILING: nothing of the STEP is done; the machine is BROKEN.")
    static void leavesNothingOfAStepThatFails(Check check) {
        PulseGraph x = Graphs.of(0, 1, 2, 3);
        x.edge(0, 1, 1.0);
        x.edge(0, 2, 1000.0);
        x.edge(1, 3, 1.0);
        x.edge(2, 3, 501.0);
        x.start(1, 0, false);
        x.step(1);
        String before = Graphs.seen(x);
        check.fails("step(1)", UnsupportedOperationException.class, () -> x.step(1));
        check.same("value(1): it computed before the one that failed", x.value(1), 1000000.0);
        check.same("about(3, 1): nothing was sent", x.about(3, 1), 0);
        check.same("count(0)", x.count(0), PulseGraph.BROKEN);
        check.that("all else is as before", Graphs.seen(x).equals(before.replaceFirst("1", "2")));
    }

    @Sentence("FAILING: nothing of the STEP is done; the machine is BROKEN.")
    static void leavesNothingForTheRunAfter(Check check) {
        PulseGraph x = Graphs.failing();
        x.save();
        check.fails("step(2)", UnsupportedOperationException.class, () -> x.step(2));
        x.stop();
        x.edge(1, 2, 500.0);
        x.start(1, 0, false);
        check.same("step(10)", x.step(10), 3);
        check.same("value(2)", x.value(2), 1500.0);
        check.same("aggregate()", x.aggregate(), 1500.0);
    }

    @Sentence("A CHECKPOINT, or none (at first), keeps all VERTICES, VALUES, EDGES, who is AWAKE, MESSAGES, "
            + "SUPERSTEP and the AGGREGATE.")
    static void keepsVerticesValuesAndEdges(Check check) {
        PulseGraph x = Graphs.link(Graphs.of(0, 1, 2, 3), 0, 1, 1, 0, 2, 0, 0, 2, 0, 3);
        x.vertex(2, 8.0);
        check.same("count(3) at first", x.count(3), 0);
        x.start(3, 2, false);
        x.save();
        String kept = Graphs.seen(x);
        x.step(2);
        check.same("count(2)", x.count(2), 1);
        x.lose(0);
        x.recover();
        check.that("all is as it was kept", Graphs.seen(x).equals(kept));
        check.same("value(2)", x.value(2), 8.0);
        check.same("about(0, 5)", x.about(0, 5), 3);
    }

    @Sentence("A CHECKPOINT, or none (at first), keeps all VERTICES, VALUES, EDGES, who is AWAKE, MESSAGES, "
            + "SUPERSTEP and the AGGREGATE.")
    static void keepsSleepersMessagesSuperstepAndAggregate(Check check) {
        PulseGraph x = Graphs.of(0, 1, 2);
        x.edge(0, 1, 5.0);
        x.edge(1, 2, 6.0);
        x.start(1, 0, true);
        x.step(2);
        x.save();
        x.step(1);
        check.same("count(0)", x.count(0), PulseGraph.IDLE);
        x.start(1, 0, true);
        x.step(2);
        x.save();
        x.lose(2);
        check.same("recover()", x.recover(), 2);
        check.same("about(0, 2)", x.about(0, 2), 0);
        check.same("about(2, 2)", x.about(2, 2), 0);
        check.same("message(2, 0)", x.message(2, 0), 11.0);
        check.same("count(1)", x.count(1), 2);
        check.same("aggregate()", x.aggregate(), 5.0);
        check.same("step(10)", x.step(10), 1);
        check.same("value(2)", x.value(2), 11.0);
    }

    @Sentence("A CHECKPOINT, or none (at first), keeps all VERTICES, VALUES, EDGES, who is AWAKE, MESSAGES, "
            + "SUPERSTEP and the AGGREGATE.")
    static void keepsTheAggregateOfCore(Check check) {
        PulseGraph x = Graphs.link(Graphs.of(0, 1), 0, 0);
        x.start(3, 1, false);
        x.step(2);
        x.save();
        x.step(2);
        check.same("aggregate()", x.aggregate(), 0.0);
        x.recover();
        check.same("aggregate()", x.aggregate(), 1.0);
        check.same("step(10)", x.step(10), 4);
    }
}
