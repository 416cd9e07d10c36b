import java.util.Random;
import java.util.concurrent.Callable;

/** Long runs of mixed calls, each answered by the program and by the model alike. */
public final class ModelTest {
    private static final int RUNS = 3000;
    private static final int CALLS = 512;
    private static final int MOST_WRONG = 10;

    private final Random random;
    private final PulseGraph graph = new PulseGraph();
    private final Model model = new Model();
    private String call = "";
    private Callable<?> ofGraph = null;
    private Callable<?> ofModel = null;

    private ModelTest(int run) {
        random = new Random(run);
    }

    public static void main(String[] args) {
        Check check = new Check();
        int wrong = 0;
        for (int run = 0; run < RUNS && wrong < MOST_WRONG; run++) {
            String fault = new ModelTest(run).firstFault();
            if (fault != null) {
                check.tell("run " + run + ": " + fault);
                wrong++;
            }
        }
        check.end();
    }

    private String firstFault() {
        boolean dense = random.nextBoolean();
        for (int i = 0; i < CALLS; i++) {
            choose(dense && i < 60);
            String got = Check.outcome(ofGraph);
            String due = Check.outcome(ofModel);
            if (!plain(got).equals(plain(due))) {
                return "call " + i + ", " + call + ", answered " + got + ", due is " + due;
            }
        }
        return null;
    }

    private static String plain(String answer) {
        return answer.equals("-0.0") ? "0.0" : answer;
    }

    private void set(String newCall, Callable<?> newOfGraph, Callable<?> newOfModel) {
        call = newCall;
        ofGraph = newOfGraph;
        ofModel = newOfModel;
    }

    /** Mostly in range, now and then just outside. */
    private int number(int least, int most) {
        return random.nextInt(40) == 0
                ? (random.nextBoolean() ? least - 1 : most + 1)
                : least + random.nextInt(most - least + 1);
    }

    private double amount(double... some) {
        return some[random.nextInt(some.length)];
    }

    private void choose(boolean building) {
        int kind = random.nextInt(100);
        if (building || kind < 20) {
            chooseBuilding(building ? 40 : 3);
        } else if (kind < 60) {
            chooseRunning();
        } else {
            chooseQuestion();
        }
    }

    private void chooseBuilding(int share) {
        int v = number(0, 11);
        int to = number(0, 11);
        int kind = random.nextInt(share + 1);
        if (kind == 0) {
            set("remove(" + v + ")", () -> graph.remove(v), () -> model.remove(v));
        } else if (kind % 3 == 0) {
            double value = amount(-0.0, 1.5, -3.0, 100000.0, -100000.0, 100000.5, Double.NaN, random.nextInt(50));
            set("vertex(" + v + ", " + value + ")", () -> graph.vertex(v, value), () -> model.vertex(v, value));
        } else {
            double length = amount(0.0, 1.0, 2.5, 100.0, 500.0, random.nextInt(1003) - 1, random.nextInt(30) / 8.0);
            set("edge(" + v + ", " + to + ", " + length + ")",
                    () -> graph.edge(v, to, length), () -> model.edge(v, to, length));
        }
    }

    private void chooseRunning() {
        int kind = random.nextInt(40);
        if (kind < 12) {
            int program = number(0, 3);
            int number = program == 3 ? random.nextInt(5) : random.nextInt(3) == 0 ? number(0, 30) : random.nextInt(12);
            boolean combines = random.nextBoolean();
            set("start(" + program + ", " + number + ", " + combines + ")",
                    () -> graph.start(program, number, combines), () -> model.start(program, number, combines));
        } else if (kind < 28) {
            int n = random.nextInt(3) == 0 ? number(1, 10) : 1;
            set("step(" + n + ")", () -> graph.step(n), () -> model.step(n));
        } else if (kind < 32) {
            set("save()", graph::save, model::save);
        } else if (kind < 34) {
            int worker = number(0, 2);
            set("lose(" + worker + ")", () -> graph.lose(worker), () -> model.lose(worker));
        } else if (kind < 38) {
            set("recover()", graph::recover, model::recover);
        } else {
            set("stop()", graph::stop, model::stop);
        }
    }

    private void chooseQuestion() {
        int v = number(0, 11);
        int kind = random.nextInt(5);
        if (kind == 0) {
            set("value(" + v + ")", () -> graph.value(v), () -> model.value(v));
        } else if (kind == 1) {
            int i = random.nextInt(2) == 0 ? 0 : random.nextInt(14) - 1;
            set("message(" + v + ", " + i + ")", () -> graph.message(v, i), () -> model.message(v, i));
        } else if (kind == 2) {
            set("aggregate()", graph::aggregate, model::aggregate);
        } else if (kind == 3) {
            int what = number(0, 14);
            set("about(" + v + ", " + what + ")", () -> graph.about(v, what), () -> model.about(v, what));
        } else {
            int what = number(0, 4);
            set("count(" + what + ")", () -> graph.count(what), () -> model.count(what));
        }
    }
}
