import java.lang.reflect.Constructor;
import java.lang.reflect.Field;
import java.lang.reflect.Method;
import java.lang.reflect.Modifier;
import java.util.Arrays;
import java.util.Set;
import java.util.TreeSet;

/** The public face is the document's, and nothing else of the class can be seen from outside. */
public final class FaceTest {
    private static final Set<String> DUE = Set.of(
            "int IDLE", "int RUNNING", "int BROKEN", "new()",
            "int vertex(int, double)", "int edge(int, int, double)", "int remove(int)",
            "int start(int, int, boolean)", "int step(int)", "int save()", "int lose(int)",
            "int recover()", "int stop()", "double value(int)", "double message(int, int)",
            "double aggregate()", "int about(int, int)", "int count(int)");

    public static void main(String[] args) {
        Check check = new Check();
        Set<String> seen = visible(check);
        check.that("the face is as due: " + seen, seen.equals(new TreeSet<>(DUE)));
        check.that("the class is public and final",
                Modifier.isPublic(PulseGraph.class.getModifiers())
                && Modifier.isFinal(PulseGraph.class.getModifiers()));
        for (Class<?> inside : PulseGraph.class.getDeclaredClasses()) {
            check.that(inside + " is static and not public", Modifier.isStatic(inside.getModifiers())
                    && !Modifier.isPublic(inside.getModifiers()));
        }
        check.end();
    }

    private static Set<String> visible(Check check) {
        Set<String> seen = new TreeSet<>();
        for (Field field : PulseGraph.class.getDeclaredFields()) {
            if (!Modifier.isPrivate(field.getModifiers())) {
                seen.add(field.getType() + " " + field.getName());
            }
            check.that(field + " is final if it is static", Modifier.isFinal(field.getModifiers())
                    || !Modifier.isStatic(field.getModifiers()));
        }
        for (Constructor<?> made : PulseGraph.class.getDeclaredConstructors()) {
            seen.add("new" + parameters(made.getParameterTypes()));
        }
        for (Method method : PulseGraph.class.getDeclaredMethods()) {
            if (!Modifier.isPrivate(method.getModifiers())) {
                seen.add(method.getReturnType() + " " + method.getName() + parameters(method.getParameterTypes()));
            }
        }
        return seen;
    }

    private static String parameters(Class<?>[] types) {
        return Arrays.toString(types).replace('[', '(').replace(']', ')');
    }
}
