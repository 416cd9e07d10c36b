import java.util.NoSuchElementException;

@Part("Promise 12: message")
public final class MessageTest {
    public static void main(String[] args) throws Exception {
        Sentences.run(MessageTest.class);
    }

    /** Vertex 2 has the messages 0.0 of 0 and 5.0 of 1; the others have none. */
    private static PulseGraph twoForOne() {
        PulseGraph x = Graphs.link(Graphs.of(0, 1, 2), 0, 2, 1, 2);
        x.vertex(1, 5.0);
        x.start(2, 0, false);
        x.step(1);
        return x;
    }

    @Sentence("MESSAGE i, from 0, of a VERTEX;")
    static void answersFromZero(Check check) {
        PulseGraph x = twoForOne();
        check.same("message(2, 0)", x.message(2, 0), 0.0);
        check.same("message(2, 1)", x.message(2, 1), 5.0);
        x.lose(0);
        check.same("message(2, 1) broken", x.message(2, 1), 5.0);
    }

    @Sentence("MESSAGE i, from 0, of a VERTEX;")
    static void answersTwelveOfAFullRow(Check check) {
        PulseGraph x = Graphs.full();
        for (int v = 0; v < 12; v++) {
            x.vertex(v, v * 2.5);
            x.edge(v, 7, 1.0);
        }
        x.start(2, 0, false);
        x.step(1);
        for (int i = 0; i < 12; i++) {
            check.same("message(7, " + i + ")", x.message(7, i), i * 2.5);
        }
        check.fails("message(7, 12)", IndexOutOfBoundsException.class, () -> x.message(7, 12));
    }

    @Sentence("MESSAGE i, from 0, of a VERTEX;")
    static void refusesAVertexOutOfRange(Check check) {
        PulseGraph x = twoForOne();
        for (int v : Graphs.outside(0, 11)) {
            check.refuses(x, "message(" + v + ", 0)", IllegalArgumentException.class, () -> x.message(v, 0));
            check.refuses(x, "message(" + v + ", -1)", IllegalArgumentException.class, () -> x.message(v, -1));
        }
    }

    @Sentence("MESSAGE i, from 0, of a VERTEX;")
    static void refusesAVertexThatIsNotThere(Check check) {
        PulseGraph x = twoForOne();
        check.refuses(x, "message(3, 0)", NoSuchElementException.class, () -> x.message(3, 0));
        check.refuses(x, "message(11, -1)", NoSuchElementException.class, () -> x.message(11, -1));
        x.stop();
        check.refuses(x, "message(3, 0) idle", NoSuchElementException.class, () -> x.message(3, 0));
    }

    @Sentence("IDLE, or there is none: IndexOutOfBoundsException.")
    static void refusesWhileIdle(Check check) {
        PulseGraph x = Graphs.ring();
        check.refuses(x, "message(2, 0) before", IndexOutOfBoundsException.class, () -> x.message(2, 0));
        PulseGraph y = twoForOne();
        y.stop();
        check.refuses(y, "message(2, 0) stopped", IndexOutOfBoundsException.class, () -> y.message(2, 0));
        check.refuses(y, "message(2, 1) stopped", IndexOutOfBoundsException.class, () -> y.message(2, 1));
    }

    @Sentence("IDLE, or there is none: IndexOutOfBoundsException.")
    static void refusesAPlaceWithoutAMessage(Check check) {
        PulseGraph x = twoForOne();
        for (int i : new int[] {-1, 2, 3, 11, 12, 144, Integer.MIN_VALUE, Integer.MAX_VALUE}) {
            check.refuses(x, "message(2, " + i + ")", IndexOutOfBoundsException.class, () -> x.message(2, i));
        }
        PulseGraph y = twoForOne();
        check.refuses(y, "message(0, 0)", IndexOutOfBoundsException.class, () -> y.message(0, 0));
        check.refuses(y, "message(1, 12)", IndexOutOfBoundsException.class, () -> y.message(1, 12));
        check.refuses(y, "message(1, 13)", IndexOutOfBoundsException.class, () -> y.message(1, 13));
    }

    @Sentence("IDLE, or there is none: IndexOutOfBoundsException.")
    static void refusesWhereMessagesAreGone(Check check) {
        PulseGraph x = twoForOne();
        x.lose(2);
        check.refuses(x, "message(2, 0) lost", IndexOutOfBoundsException.class, () -> x.message(2, 0));
        PulseGraph y = Graphs.of(2);
        y.start(2, 0, false);
        check.refuses(y, "message(2, 0) at the start", IndexOutOfBoundsException.class, () -> y.message(2, 0));
    }
}
