import java.util.NoSuchElementException;

/** Promises 11 to 15: the calls that only answer. */
public final class QuestionsTest {
    private static final Check check = new Check();

    public static void main(String[] args) {
        value();
        message();
        aggregate();
        about();
        count();
        changesNothing();
        check.end();
    }

    private static void value() {
        PulseGraph x = Graphs.of(0, 11);
        x.vertex(11, 12.25);
        check.same("value(11)", x.value(11), 12.25);
        check.same("value(0)", x.value(0), 0.0);
        check.refuses("value(-1)", IllegalArgumentException.class, () -> x.value(-1));
        check.refuses("value(12)", IllegalArgumentException.class, () -> x.value(12));
        check.refuses("value(5)", NoSuchElementException.class, () -> x.value(5));
    }

    private static void message() {
        PulseGraph x = Graphs.link(Graphs.of(0, 1, 2), 0, 2, 1, 2);
        check.refuses("message(2, 0) idle", IndexOutOfBoundsException.class, () -> x.message(2, 0));
        x.vertex(1, 5.0);
        x.start(2, 0, false);
        check.refuses("message(2, 0) at the start", IndexOutOfBoundsException.class, () -> x.message(2, 0));
        x.step(1);
        check.same("message(2, 0)", x.message(2, 0), 0.0);
        check.same("message(2, 1)", x.message(2, 1), 5.0);
        int[] places = {-1, 2, 12, Integer.MIN_VALUE, Integer.MAX_VALUE};
        for (int i : places) {
            check.refuses("message(2, " + i + ")", IndexOutOfBoundsException.class, () -> x.message(2, i));
        }
        check.refuses("message(0, 0)", IndexOutOfBoundsException.class, () -> x.message(0, 0));
        check.refuses("message(-1, 0)", IllegalArgumentException.class, () -> x.message(-1, 0));
        check.refuses("message(12, -1)", IllegalArgumentException.class, () -> x.message(12, -1));
        check.refuses("message(5, -1)", NoSuchElementException.class, () -> x.message(5, -1));
        x.lose(0);
        check.same("message(2, 1) broken", x.message(2, 1), 5.0);
        x.stop();
        check.refuses("message(2, 1) stopped", IndexOutOfBoundsException.class, () -> x.message(2, 1));
    }

    private static void aggregate() {
        PulseGraph x = Graphs.ring();
        x.vertex(2, 42.0);
        x.start(2, 0, false);
        check.same("aggregate()", x.aggregate(), 0.0);
        x.step(1);
        check.same("aggregate()", x.aggregate(), 42.0);
        x.lose(2);
        check.same("aggregate() broken", x.aggregate(), 42.0);
        x.stop();
        check.same("aggregate() stopped", x.aggregate(), 42.0);
        x.start(3, 0, false);
        check.same("aggregate() of CORE", x.aggregate(), 1.0);
    }

    private static void about() {
        PulseGraph x = Graphs.link(Graphs.of(0, 1, 2), 1, 2, 1, 0, 0, 2);
        check.same("about(1, 0)", x.about(1, 0), 2);
        check.same("about(1, 1) idle", x.about(1, 1), 0);
        check.same("about(1, 2) idle", x.about(1, 2), 0);
        check.same("about(1, 3)", x.about(1, 3), 2);
        check.same("about(1, 4)", x.about(1, 4), 0);
        for (int what = 5; what < 15; what++) {
            check.same("about(1, " + what + ")", x.about(1, what), -1);
        }
        check.refuses("about(1, -1)", IllegalArgumentException.class, () -> x.about(1, -1));
        check.refuses("about(1, 15)", IllegalArgumentException.class, () -> x.about(1, 15));
        check.refuses("about(-1, 0)", IllegalArgumentException.class, () -> x.about(-1, 0));
        check.refuses("about(12, 0)", IllegalArgumentException.class, () -> x.about(12, 0));
        check.refuses("about(5, 15)", IllegalArgumentException.class, () -> x.about(5, 15));
        check.refuses("about(5, 0)", NoSuchElementException.class, () -> x.about(5, 0));
        x.start(0, 4, false);
        check.same("about(2, 2)", x.about(2, 2), 1);
        x.step(1);
        check.same("about(2, 1)", x.about(2, 1), 2);
        check.same("about(0, 1)", x.about(0, 1), 1);
        check.same("about(1, 1)", x.about(1, 1), 0);
        x.stop();
        check.same("about(2, 1) stopped", x.about(2, 1), 0);
        check.same("about(2, 2) stopped", x.about(2, 2), 0);
    }

    private static void count() {
        PulseGraph x = Graphs.link(Graphs.of(0, 1, 2), 1, 2, 1, 0, 0, 2);
        check.refuses("count(-1)", IllegalArgumentException.class, () -> x.count(-1));
        check.refuses("count(5)", IllegalArgumentException.class, () -> x.count(5));
        check.same("count(2)", x.count(2), 3);
        x.start(0, 4, false);
        check.same("count(0)", x.count(0), 1);
        x.step(2);
        check.same("count(1)", x.count(1), 2);
        check.same("count(4)", x.count(4), 3);
        check.same("count(3)", x.count(3), 0);
        x.save();
        check.same("count(3)", x.count(3), 1);
        x.lose(2);
        check.same("count(0) broken", x.count(0), 2);
        check.same("count(1) broken", x.count(1), 2);
        check.same("count(4) broken", x.count(4), 1);
        x.stop();
        check.same("count(0) stopped", x.count(0), 0);
        check.same("count(1): of when it was idle last", x.count(1), 2);
        check.same("count(4) stopped", x.count(4), 0);
        x.start(0, 4, false);
        check.same("count(1) started", x.count(1), 0);
    }

    private static void changesNothing() {
        PulseGraph x = Graphs.link(Graphs.of(0, 1, 2), 1, 2, 1, 0, 0, 2);
        x.start(0, 4, true);
        x.step(2);
        x.save();
        String first = Graphs.seen(x);
        check.that("what is seen twice is the same", Graphs.seen(x).equals(first));
    }
}
