import java.util.NoSuchElementException;

/** Promise 3. */
public final class EdgeTest {
    private static final Check check = new Check();

    public static void main(String[] args) {
        keepsOrderAndPlaces();
        changesTheLength();
        takesTwelveOfEach();
        refusesWhatIsWrong();
        check.end();
    }

    private static void keepsOrderAndPlaces() {
        PulseGraph x = Graphs.of(0, 5, 7, 11);
        check.same("edge(5, 11, 0.0)", x.edge(5, 11, 0.0), 1);
        check.same("edge(5, 0, 1000.0)", x.edge(5, 0, 1000.0), 2);
        check.same("edge(5, 5, 1.0)", x.edge(5, 5, 1.0), 3);
        check.same("edge(5, 11, 2.0) again", x.edge(5, 11, 2.0), 3);
        check.same("edge(0, 5, 2.0)", x.edge(0, 5, 2.0), 1);
        check.same("about(5, 3)", x.about(5, 3), 11);
        check.same("about(5, 4)", x.about(5, 4), 0);
        check.same("about(5, 5)", x.about(5, 5), 5);
        check.same("about(5, 6)", x.about(5, 6), -1);
        check.same("about(11, 0): an edge leads one way", x.about(11, 0), 0);
    }

    private static void changesTheLength() {
        PulseGraph x = Graphs.of(0, 1, 2);
        x.edge(0, 1, 5.0);
        x.edge(0, 2, 6.0);
        x.edge(0, 1, 7.0);
        x.start(1, 0, false);
        x.step(1);
        check.same("message(1, 0): the newer length", x.message(1, 0), 7.0);
        check.same("message(2, 0): the other length", x.message(2, 0), 6.0);
    }

    private static void takesTwelveOfEach() {
        PulseGraph x = Graphs.of(0, 1, 2, 3, 4, 5, 6, 7, 8, 9, 10, 11);
        for (int from = 0; from < 12; from++) {
            for (int to = 11; to >= 0; to--) {
                check.same("edge(" + from + ", " + to + ")", x.edge(from, to, 1.0), 12 - to);
            }
        }
        check.same("edge(11, 11, 2.0) once more", x.edge(11, 11, 2.0), 12);
        check.same("about(11, 14)", x.about(11, 14), 0);
        x.start(2, 0, false);
        x.step(1);
        check.same("count(4): twelve messages for each", x.count(4), 144);
    }

    private static void refusesWhatIsWrong() {
        PulseGraph x = Graphs.of(0, 1);
        double[] lengths = {-0.1, 1000.1, Double.NaN, Double.POSITIVE_INFINITY, -1.0};
        for (double length : lengths) {
            check.refuses("edge(0, 1, " + length + ")", IllegalArgumentException.class, () -> x.edge(0, 1, length));
        }
        int[] numbers = {-1, 12};
        for (int number : numbers) {
            check.refuses("edge(from)", IllegalArgumentException.class, () -> x.edge(number, 1, 1.0));
            check.refuses("edge(to)", IllegalArgumentException.class, () -> x.edge(0, number, 1.0));
        }
        check.refuses("edge(3, 0, 1.0)", NoSuchElementException.class, () -> x.edge(3, 0, 1.0));
        check.refuses("edge(0, 3, 1.0)", NoSuchElementException.class, () -> x.edge(0, 3, 1.0));
        check.refuses("edge(3, 12, 1.0)", IllegalArgumentException.class, () -> x.edge(3, 12, 1.0));
        check.refuses("edge(3, 0, -1.0)", IllegalArgumentException.class, () -> x.edge(3, 0, -1.0));
        check.same("about(0, 0)", x.about(0, 0), 0);
        x.start(0, 5, false);
        check.refuses("edge(0, 1, 1.0) running", IllegalStateException.class, () -> x.edge(0, 1, 1.0));
        check.refuses("edge(0, 3, 1.0) running", NoSuchElementException.class, () -> x.edge(0, 3, 1.0));
        x.lose(0);
        check.refuses("edge(0, 1, 1.0) broken", IllegalStateException.class, () -> x.edge(0, 1, 1.0));
        check.same("about(0, 0)", x.about(0, 0), 0);
    }
}
