import java.util.NoSuchElementException;

/** Promise 1. */
public final class NewObjectTest {
    public static void main(String[] args) {
        Check check = new Check();
        PulseGraph x = new PulseGraph();
        for (int what = 0; what < 5; what++) {
            check.same("count(" + what + ")", x.count(what), 0);
        }
        check.same("aggregate()", x.aggregate(), 0.0);
        for (int vertex = 0; vertex < 12; vertex++) {
            int v = vertex;
            check.refuses("value(" + v + ")", NoSuchElementException.class, () -> x.value(v));
        }
        check.same("IDLE", PulseGraph.IDLE, 0);
        check.same("RUNNING", PulseGraph.RUNNING, 1);
        check.same("BROKEN", PulseGraph.BROKEN, 2);
        PulseGraph other = new PulseGraph();
        other.vertex(3, 4.0);
        check.same("count(2) of another object", x.count(2), 0);
        check.end();
    }
}
