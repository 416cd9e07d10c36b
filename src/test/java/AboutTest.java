import java.util.NoSuchElementException;

@Part("Promise 14: about")
public final class AboutTest {
    public static void main(String[] args) throws Exception {
        Sentences.run(AboutTest.class);
    }

    @Sentence("Of a VERTEX: 0 how many EDGES;")
    static void countsEdgesFromNoneToTwelve(Check check) {
        PulseGraph x = Graphs.full();
        check.same("about(8, 0) of none", x.about(8, 0), 0);
        for (int to = 0; to < 12; to++) {
            x.edge(8, to, 1.0);
            check.same("about(8, 0)", x.about(8, 0), to + 1);
        }
        check.same("about(0, 0): those to it are not its own", x.about(0, 0), 0);
        x.start(0, 9, false);
        check.same("about(8, 0) running", x.about(8, 0), 12);
        x.lose(2);
        check.same("about(8, 0) broken", x.about(8, 0), 12);
    }

    @Sentence("Of a VERTEX: 0 how many EDGES;")
    static void refusesAVertexOutOfRange(Check check) {
        PulseGraph x = Graphs.of(0, 11);
        for (int v : Graphs.outside(0, 11)) {
            for (int w = 0; w < 15; w += 7) {
                int what = w;
                check.fails("about(" + v + ", " + what + ")", IllegalArgumentException.class, () -> x.about(v, what));
            }
        }
    }

    @Sentence("Of a VERTEX: 0 how many EDGES;")
    static void refusesAVertexThatIsNotThere(Check check) {
        PulseGraph x = Graphs.of(0, 11);
        for (int w = 0; w < 15; w++) {
            int what = w;
            check.fails("about(5, " + what + ")", NoSuchElementException.class, () -> x.about(5, what));
        }
        check.refuses(x, "about(5, 0)", NoSuchElementException.class, () -> x.about(5, 0));
    }

    @Sentence("1 how many MESSAGES,")
    static void countsMessagesFromNoneToTwelve(Check check) {
        for (int senders = 0; senders < 13; senders++) {
            PulseGraph x = Graphs.full();
            for (int from = 0; from < senders; from++) {
                x.edge(from, 4, 1.0);
            }
            x.start(2, 0, false);
            check.same("about(4, 1) at the start", x.about(4, 1), 0);
            x.step(1);
            check.same("about(4, 1)", x.about(4, 1), senders);
        }
    }

    @Sentence("1 how many MESSAGES,")
    static void countsThreeAtMostIfTheyAreCombined(Check check) {
        PulseGraph x = Graphs.full();
        for (int from = 0; from < 12; from++) {
            x.edge(from, 4, 1.0);
        }
        x.start(2, 0, true);
        x.step(1);
        check.same("about(4, 1)", x.about(4, 1), 3);
        check.same("about(5, 1)", x.about(5, 1), 0);
    }

    @Sentence("2: 1 if it is AWAKE, else 0")
    static void tellsWhoIsAwake(Check check) {
        PulseGraph x = Graphs.of(2, 9);
        x.start(2, 0, false);
        check.same("about(2, 2)", x.about(2, 2), 1);
        check.same("about(9, 2)", x.about(9, 2), 1);
    }

    @Sentence("2: 1 if it is AWAKE, else 0")
    static void tellsWhoSleeps(Check check) {
        PulseGraph x = Graphs.failing();
        x.step(1);
        check.same("about(0, 2)", x.about(0, 2), 0);
        check.same("about(1, 2): a message alone does not wake it yet", x.about(1, 2), 0);
        check.same("about(1, 1)", x.about(1, 1), 1);
    }

    @Sentence("(both 0 if IDLE);")
    static void isZeroIfIdle(Check check) {
        PulseGraph x = Graphs.ring();
        check.same("about(1, 1) before", x.about(1, 1), 0);
        check.same("about(1, 2) before", x.about(1, 2), 0);
        PulseGraph y = Graphs.running();
        check.same("about(1, 1) running", y.about(1, 1), 1);
        check.same("about(1, 2) running", y.about(1, 2), 1);
        y.stop();
        check.same("about(1, 1) stopped", y.about(1, 1), 0);
        check.same("about(1, 2) stopped", y.about(1, 2), 0);
    }

    @Sentence("(both 0 if IDLE);")
    static void isNotZeroIfBroken(Check check) {
        PulseGraph x = Graphs.lost();
        check.same("about(0, 1)", x.about(0, 1), 1);
        check.same("about(0, 2)", x.about(0, 2), 1);
        check.same("about(1, 2)", x.about(1, 2), 1);
    }

    @Sentence("3 + i: where EDGE i 0 .. 11 leads, -1 for none.")
    static void tellsWhereTwelveEdgesLead(Check check) {
        PulseGraph x = Graphs.full();
        for (int i = 0; i < 12; i++) {
            x.edge(3, (i * 5 + 2) % 12, 1.0);
        }
        for (int i = 0; i < 12; i++) {
            check.same("about(3, " + (3 + i) + ")", x.about(3, 3 + i), (i * 5 + 2) % 12);
        }
    }

    @Sentence("3 + i: where EDGE i 0 .. 11 leads, -1 for none.")
    static void answersMinusOneForNone(Check check) {
        PulseGraph x = Graphs.link(Graphs.of(0, 1, 2), 1, 2, 1, 0);
        check.same("about(1, 3)", x.about(1, 3), 2);
        check.same("about(1, 4)", x.about(1, 4), 0);
        for (int what = 5; what < 15; what++) {
            check.same("about(1, " + what + ")", x.about(1, what), -1);
        }
        check.same("about(0, 3)", x.about(0, 3), -1);
        x.remove(2);
        check.same("about(1, 4): no more", x.about(1, 4), -1);
    }

    @Sentence("what 0 .. 14.")
    static void takesTheLeastAndTheGreatest(Check check) {
        PulseGraph x = Graphs.of(6);
        check.same("about(6, 0)", x.about(6, 0), 0);
        check.same("about(6, 14)", x.about(6, 14), -1);
    }

    @Sentence("what 0 .. 14.")
    static void refusesWhatIsOutOfRange(Check check) {
        PulseGraph x = Graphs.ring();
        for (int what : Graphs.outside(0, 14)) {
            check.refuses(x, "about(1, " + what + ")", IllegalArgumentException.class, () -> x.about(1, what));
            check.refuses(x, "about(5, " + what + ")", IllegalArgumentException.class, () -> x.about(5, what));
        }
    }
}
