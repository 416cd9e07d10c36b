import java.util.NoSuchElementException;

@Part("Promise 4: remove")
public final class RemoveTest {
    public static void main(String[] args) throws Exception {
        Sentences.run(RemoveTest.class);
    }

    @Sentence("It is not IDLE: IllegalStateException.")
    static void refusesWhileRunning(Check check) {
        PulseGraph x = Graphs.running();
        check.refuses(x, "remove(0)", IllegalStateException.class, () -> x.remove(0));
        check.refuses(x, "remove(3)", NoSuchElementException.class, () -> x.remove(3));
        check.refuses(x, "remove(12)", IllegalArgumentException.class, () -> x.remove(12));
        x.stop();
        check.same("remove(0) stopped", x.remove(0), 1);
    }

    @Sentence("It is not IDLE: IllegalStateException.")
    static void refusesWhileBroken(Check check) {
        PulseGraph x = Graphs.lost();
        check.refuses(x, "remove(0) lost", IllegalStateException.class, () -> x.remove(0));
        PulseGraph y = Graphs.failed();
        check.refuses(y, "remove(2) failed", IllegalStateException.class, () -> y.remove(2));
    }

    @Sentence("The VERTEX is there no more,")
    static void isThereNoMore(Check check) {
        PulseGraph x = Graphs.ring();
        x.remove(2);
        check.same("count(2)", x.count(2), 2);
        check.refuses(x, "value(2)", NoSuchElementException.class, () -> x.value(2));
        check.refuses(x, "message(2, 0)", NoSuchElementException.class, () -> x.message(2, 0));
        check.refuses(x, "about(2, 0)", NoSuchElementException.class, () -> x.about(2, 0));
        check.refuses(x, "edge(0, 2, 1.0)", NoSuchElementException.class, () -> x.edge(0, 2, 1.0));
        check.refuses(x, "remove(2) again", NoSuchElementException.class, () -> x.remove(2));
    }

    @Sentence("The VERTEX is there no more,")
    static void removesTheLeastTheGreatestAndTheLast(Check check) {
        PulseGraph x = Graphs.of(0, 11);
        check.same("remove(11)", x.remove(11), 0);
        check.same("remove(0)", x.remove(0), 0);
        check.same("count(2)", x.count(2), 0);
        check.refuses(x, "start(0, 0, false)", IllegalStateException.class, () -> x.start(0, 0, false));
    }

    @Sentence("The VERTEX is there no more,")
    static void refusesAVertexOutOfRange(Check check) {
        PulseGraph x = Graphs.of(0, 11);
        for (int v : Graphs.outside(0, 11)) {
            check.refuses(x, "remove(" + v + ")", IllegalArgumentException.class, () -> x.remove(v));
        }
    }

    @Sentence("The VERTEX is there no more,")
    static void refusesAVertexThatIsNotThere(Check check) {
        PulseGraph x = Graphs.of(0, 11);
        check.refuses(x, "remove(1)", NoSuchElementException.class, () -> x.remove(1));
        PulseGraph y = new PulseGraph();
        check.refuses(y, "remove(0) of none", NoSuchElementException.class, () -> y.remove(0));
    }

    @Sentence("nor are EDGES to it.")
    static void cutsEdgesAndMovesTheRestUp(Check check) {
        PulseGraph x = Graphs.of(0, 1, 2, 3);
        x.edge(0, 1, 10.0);
        x.edge(0, 2, 20.0);
        x.edge(0, 3, 30.0);
        x.edge(3, 1, 40.0);
        x.remove(1);
        check.same("about(0, 0)", x.about(0, 0), 2);
        check.same("about(0, 3)", x.about(0, 3), 2);
        check.same("about(0, 4)", x.about(0, 4), 3);
        check.same("about(0, 5)", x.about(0, 5), -1);
        check.same("about(3, 0)", x.about(3, 0), 0);
        x.vertex(1, 0.0);
        check.same("about(0, 0): made anew, no edge leads to it", x.about(0, 0), 2);
        x.start(1, 0, false);
        x.step(1);
        check.same("message(2, 0): the rest keep their lengths", x.message(2, 0), 20.0);
        check.same("message(3, 0): the rest keep their lengths", x.message(3, 0), 30.0);
    }

    @Sentence("nor are EDGES to it.")
    static void makesRoomInAFullRow(Check check) {
        PulseGraph x = Graphs.full();
        for (int to = 0; to < 12; to++) {
            x.edge(4, to, 1.0);
        }
        x.remove(11);
        check.same("about(4, 0)", x.about(4, 0), 11);
        check.same("about(4, 13)", x.about(4, 13), 10);
        check.same("about(4, 14)", x.about(4, 14), -1);
        x.vertex(11, 0.0);
        check.same("edge(4, 11, 1.0)", x.edge(4, 11, 1.0), 12);
        x.remove(0);
        x.vertex(0, 0.0);
        check.same("edge(4, 0, 1.0)", x.edge(4, 0, 1.0), 12);
        check.same("about(4, 3)", x.about(4, 3), 1);
        check.same("about(4, 14): made last", x.about(4, 14), 0);
    }

    @Sentence("Answers how many EDGES those were (its own to itself not counted).")
    static void countsTheEdgesToIt(Check check) {
        PulseGraph x = Graphs.link(Graphs.of(0, 1, 2, 3), 0, 2, 1, 2, 2, 2, 2, 0, 2, 1);
        check.same("remove(2)", x.remove(2), 2);
        check.same("remove(0): none", x.remove(0), 0);
        x.edge(3, 3, 1.0);
        check.same("remove(3): its own only", x.remove(3), 0);
    }

    @Sentence("Answers how many EDGES those were (its own to itself not counted).")
    static void countsElevenAtMost(Check check) {
        PulseGraph x = Graphs.full();
        for (int from = 0; from < 12; from++) {
            x.edge(from, 6, 1.0);
        }
        check.same("remove(6)", x.remove(6), 11);
    }
}
