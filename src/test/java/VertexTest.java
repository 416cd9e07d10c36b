/** Promise 2. */
public final class VertexTest {
    private static final Check check = new Check();

    public static void main(String[] args) {
        makesAndChanges();
        refusesWhatIsOutOfRange();
        refusesUnlessIdle();
        check.end();
    }

    private static void makesAndChanges() {
        PulseGraph x = new PulseGraph();
        check.same("vertex(0, -100000.0)", x.vertex(0, -100000.0), 1);
        check.same("vertex(11, 100000.0)", x.vertex(11, 100000.0), 2);
        check.same("value(0)", x.value(0), -100000.0);
        check.same("value(11)", x.value(11), 100000.0);
        check.same("edge(0, 11, 1.0)", x.edge(0, 11, 1.0), 1);
        check.same("vertex(0, 2.5) again", x.vertex(0, 2.5), 2);
        check.same("value(0) after the change", x.value(0), 2.5);
        check.same("about(0, 0): edges stay", x.about(0, 0), 1);
        check.same("about(0, 3): edges stay", x.about(0, 3), 11);
        check.same("about(11, 0)", x.about(11, 0), 0);
    }

    private static void refusesWhatIsOutOfRange() {
        PulseGraph x = Graphs.of(4);
        double[] amounts = {-100000.1, 100000.1, Double.NaN, Double.POSITIVE_INFINITY, Double.NEGATIVE_INFINITY};
        for (double amount : amounts) {
            check.refuses("vertex(4, " + amount + ")", IllegalArgumentException.class, () -> x.vertex(4, amount));
        }
        int[] numbers = {-1, 12, Integer.MIN_VALUE, Integer.MAX_VALUE};
        for (int number : numbers) {
            check.refuses("vertex(" + number + ", 0.0)", IllegalArgumentException.class, () -> x.vertex(number, 0.0));
        }
        check.same("count(2)", x.count(2), 1);
        check.same("value(4)", x.value(4), 0.0);
    }

    private static void refusesUnlessIdle() {
        PulseGraph x = Graphs.ring();
        x.start(0, 5, false);
        check.refuses("vertex(5, 0.0) running", IllegalStateException.class, () -> x.vertex(5, 0.0));
        check.refuses("vertex(12, 0.0) running", IllegalArgumentException.class, () -> x.vertex(12, 0.0));
        check.refuses("vertex(5, NaN) running", IllegalArgumentException.class, () -> x.vertex(5, Double.NaN));
        x.lose(0);
        check.refuses("vertex(5, 0.0) broken", IllegalStateException.class, () -> x.vertex(5, 0.0));
        x.stop();
        check.same("vertex(5, 0.0) stopped", x.vertex(5, 0.0), 4);
    }
}
