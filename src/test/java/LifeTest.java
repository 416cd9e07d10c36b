@Part("What it is")
public final class LifeTest {
    private static final int CALLS = 512;

    public static void main(String[] args) throws Exception {
        Sentences.run(LifeTest.class);
    }

    @Sentence("An object is used for at most 512 calls after it has been made; what later calls answer is free.")
    static void answersUpToTheLastCall(Check check) {
        PulseGraph x = new PulseGraph();
        x.vertex(0, 0.0);
        x.edge(0, 0, 1.0);
        for (int call = 2; call < CALLS; call += 3) {
            check.same("start(0, 9, false) as call " + call, x.start(0, 9, false), 1);
            check.same("step(10)", x.step(10), 10);
            check.same("count(1)", x.count(1), 10);
        }
    }

    @Sentence("An object is used for at most 512 calls after it has been made; what later calls answer is free.")
    static void refusesUpToTheLastCall(Check check) {
        PulseGraph x = new PulseGraph();
        for (int call = 0; call < CALLS - 1; call++) {
            check.fails("step(1)", IllegalStateException.class, () -> x.step(1));
        }
        check.same("vertex(0, 1.0) as the last call", x.vertex(0, 1.0), 1);
    }

    @Sentence("An object is used for at most 512 calls after it has been made; what later calls answer is free.")
    static void goesBackAndForthUpToTheLastCall(Check check) {
        PulseGraph x = Graphs.running();
        x.save();
        for (int call = 9; call + 3 <= CALLS; call += 3) {
            check.same("step(2)", x.step(2), 2);
            check.same("lose(1)", x.lose(1), 1);
            check.same("recover()", x.recover(), 1);
        }
    }
}
