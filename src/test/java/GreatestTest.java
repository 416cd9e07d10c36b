@Part("Terms: 2 GREATEST")
public final class GreatestTest {
    public static void main(String[] args) throws Exception {
        Sentences.run(GreatestTest.class);
    }

    /** A ring with the values 5.0, 9.0 and 7.0. */
    private static PulseGraph ring() {
        PulseGraph x = Graphs.ring();
        x.vertex(0, 5.0);
        x.vertex(1, 9.0);
        x.vertex(2, 7.0);
        return x;
    }

    @Sentence("the greatest of m and its VALUE becomes its VALUE;")
    static void spreadsAlongEdges(Check check) {
        PulseGraph x = ring();
        x.start(2, 30, false);
        x.step(2);
        check.same("value(0): 7.0 of 2", x.value(0), 7.0);
        check.same("value(1): its own", x.value(1), 9.0);
        check.same("value(2): 9.0 of 1", x.value(2), 9.0);
        check.same("step(10)", x.step(10), 2);
        check.same("value(0)", x.value(0), 9.0);
    }

    @Sentence("the greatest of m and its VALUE becomes its VALUE;")
    static void takesTheGreatestWhereverItStands(Check check) {
        for (int best = 1; best < 4; best++) {
            PulseGraph x = Graphs.link(Graphs.of(0, 1, 2, 3), 1, 0, 2, 0, 3, 0);
            x.vertex(0, -90.0);
            for (int v = 1; v < 4; v++) {
                x.vertex(v, v == best ? -1.0 : -50.0 - v);
            }
            x.start(2, 0, false);
            x.step(2);
            check.same("value(0)", x.value(0), -1.0);
        }
    }

    @Sentence("the greatest of m and its VALUE becomes its VALUE;")
    static void keepsItsOwnWithoutMessages(Check check) {
        PulseGraph x = Graphs.of(3);
        x.vertex(3, -100000.0);
        x.start(2, 0, false);
        check.same("step(10)", x.step(10), 1);
        check.same("value(3)", x.value(3), -100000.0);
    }

    @Sentence("if that is more than before, or in SUPERSTEP 0, it SENDS it.")
    static void sendsInSuperstepZero(Check check) {
        PulseGraph x = ring();
        x.start(2, 0, false);
        x.step(1);
        check.same("count(4)", x.count(4), 3);
        check.same("message(1, 0)", x.message(1, 0), 5.0);
        check.same("message(2, 0)", x.message(2, 0), 9.0);
        check.same("message(0, 0)", x.message(0, 0), 7.0);
    }

    @Sentence("if that is more than before, or in SUPERSTEP 0, it SENDS it.")
    static void sendsLaterOnlyWhatIsMore(Check check) {
        PulseGraph x = ring();
        x.start(2, 0, false);
        x.step(2);
        check.same("about(2, 1): 1 was not raised", x.about(2, 1), 0);
        check.same("message(1, 0): of 0, raised", x.message(1, 0), 7.0);
        check.same("message(0, 0): of 2, raised", x.message(0, 0), 9.0);
    }

    @Sentence("if that is more than before, or in SUPERSTEP 0, it SENDS it.")
    static void sendsNothingIfItIsTheSame(Check check) {
        PulseGraph x = Graphs.ring();
        x.start(2, 0, false);
        check.same("step(10)", x.step(10), 2);
        check.same("count(0)", x.count(0), PulseGraph.IDLE);
        check.same("value(1)", x.value(1), 0.0);
    }

    @Sentence("It offers it.")
    static void offersWithoutARise(Check check) {
        PulseGraph x = ring();
        x.start(2, 0, false);
        x.step(1);
        check.same("aggregate()", x.aggregate(), 9.0);
        x.step(3);
        check.same("aggregate(): 1 offered without a rise", x.aggregate(), 9.0);
        check.same("count(0)", x.count(0), PulseGraph.IDLE);
    }

    @Sentence("It offers it.")
    static void offersOnlyIfItComputes(Check check) {
        PulseGraph x = Graphs.link(Graphs.of(0, 1, 2), 0, 1);
        x.vertex(0, 3.0);
        x.vertex(2, 8.0);
        x.start(2, 0, false);
        x.step(1);
        check.same("aggregate() of all", x.aggregate(), 8.0);
        x.step(1);
        check.same("aggregate() of 1 alone", x.aggregate(), 3.0);
    }

    @Sentence("It SLEEPS.")
    static void sleepsAtOnce(Check check) {
        PulseGraph x = ring();
        x.start(2, 0, false);
        for (int step = 0; step < 3; step++) {
            x.step(1);
            check.same("count(0)", x.count(0), PulseGraph.RUNNING);
            for (int v = 0; v < 3; v++) {
                check.same("about(" + v + ", 2)", x.about(v, 2), 0);
            }
        }
    }
}
