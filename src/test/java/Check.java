import java.util.concurrent.Callable;

/** Counts the answers that are not as due, and ends a test with exit code 1 if there were any. */
final class Check {
    private int wrong = 0;
    private String about = "";

    /** What is told from here on is about this. */
    void begin(String newAbout) {
        about = newAbout;
        System.out.println(about);
    }

    /** Takes 0.0 and -0.0 for the same, as the document does not tell them apart. */
    void same(String call, double got, double due) {
        if (got != due) {
            tell(call + " answered " + got + ", due is " + due);
        }
    }

    void that(String what, boolean holds) {
        if (!holds) {
            tell(what + " does not hold");
        }
    }

    /** The call throws, and nothing that can be seen of the graph changes by it. */
    void refuses(PulseGraph x, String call, Class<? extends RuntimeException> due, Callable<?> run) {
        String before = Graphs.seen(x);
        fails(call, due, run);
        String after = Graphs.seen(x);
        if (!after.equals(before)) {
            tell(call + " changed\n" + before + "\ninto\n" + after);
        }
    }

    /** The call throws, whatever it changes. */
    void fails(String call, Class<? extends RuntimeException> due, Callable<?> run) {
        String got = outcome(run);
        if (!got.equals("throws." + due.getSimpleName())) {
            tell(call + " gave " + got + ", due is throws." + due.getSimpleName());
        }
    }

    /** The answer as a text, or throws. and the name of the exception. */
    static String outcome(Callable<?> run) {
        try {
            return String.valueOf(run.call());
        } catch (Exception e) {
            return "throws." + e.getClass().getSimpleName();
        }
    }

    void tell(String text) {
        wrong++;
        System.out.println((about.isEmpty() ? "" : "WRONG in " + about + ": ") + text);
    }

    void end() {
        System.out.println(wrong == 0 ? "all answers are as due" : wrong + " answers are not as due");
        if (wrong != 0) {
            System.exit(1);
        }
    }
}
