import java.lang.reflect.Constructor;
import java.lang.reflect.Field;
import java.lang.reflect.Method;
import java.lang.reflect.Modifier;
import java.util.Set;
import java.util.StringJoiner;
import java.util.TreeSet;

/** Nothing of the class but what the document tells can be seen from outside. */
@Part("The public face")
public final class FaceTest {
    private static final Set<String> METHODS = Set.of(
            "int vertex(int, double) throws IllegalArgumentException, IllegalStateException",
            "int edge(int, int, double) throws IllegalArgumentException, NoSuchElementException, IllegalStateException",
            "int remove(int) throws IllegalArgumentException, NoSuchElementException, IllegalStateException",
            "int start(int, int, boolean) throws IllegalArgumentException, IllegalStateException",
            "int step(int) throws IllegalArgumentException, IllegalStateException, UnsupportedOperationException",
            "int save() throws IllegalStateException",
            "int lose(int) throws IllegalArgumentException, IllegalStateException",
            "int recover() throws IllegalStateException, UnsupportedOperationException",
            "int stop() throws IllegalStateException",
            "double value(int) throws IllegalArgumentException, NoSuchElementException",
            "double message(int, int) throws IllegalArgumentException, NoSuchElementException, "
                    + "IndexOutOfBoundsException",
            "double aggregate()",
            "int about(int, int) throws IllegalArgumentException, NoSuchElementException",
            "int count(int) throws IllegalArgumentException");

    public static void main(String[] args) throws Exception {
        Sentences.run(FaceTest.class);
    }

    @Sentence("public final class PulseGraph {")
    static void isPublicAndFinal(Check check) {
        int modifiers = PulseGraph.class.getModifiers();
        check.that("the class is public", Modifier.isPublic(modifiers));
        check.that("the class is final", Modifier.isFinal(modifiers));
        for (Class<?> inside : PulseGraph.class.getDeclaredClasses()) {
            check.that(inside + " is static and not public", Modifier.isStatic(inside.getModifiers())
                    && !Modifier.isPublic(inside.getModifiers()));
        }
    }

    @Sentence("public static final int IDLE = 0; public static final int RUNNING = 1; "
            + "public static final int BROKEN = 2;")
    static void hasThreeConstantsAndNoOtherField(Check check) throws IllegalAccessException {
        Set<String> seen = new TreeSet<>();
        for (Field field : PulseGraph.class.getDeclaredFields()) {
            if (!Modifier.isPrivate(field.getModifiers())) {
                seen.add(Modifier.toString(field.getModifiers()) + " " + field.getType() + " "
                        + field.getName() + " = " + field.get(null));
            }
            check.that(field + " is final if it is static", Modifier.isFinal(field.getModifiers())
                    || !Modifier.isStatic(field.getModifiers()));
        }
        check.that("the constants are as due: " + seen, seen.equals(Set.of("public static final int IDLE = 0",
                "public static final int RUNNING = 1", "public static final int BROKEN = 2")));
    }

    @Sentence("public PulseGraph();")
    static void hasOneConstructor(Check check) {
        Constructor<?>[] made = PulseGraph.class.getDeclaredConstructors();
        check.same("the number of constructors", made.length, 1);
        check.that("the constructor is public", Modifier.isPublic(made[0].getModifiers()));
        check.same("the number of its parameters", made[0].getParameterCount(), 0);
    }

    @Sentence("public int vertex(int vertex, double value) throws IllegalArgumentException, IllegalStateException;")
    static void hasThisMethodAndTheOthersAndNoMore(Check check) {
        Set<String> seen = new TreeSet<>();
        for (Method method : PulseGraph.class.getDeclaredMethods()) {
            if (!Modifier.isPrivate(method.getModifiers())) {
                seen.add(told(method));
                check.that(method + " is public", Modifier.isPublic(method.getModifiers()));
            }
        }
        check.that("the methods are as due: " + seen, seen.equals(new TreeSet<>(METHODS)));
    }

    private static String told(Method method) {
        StringJoiner parameters = new StringJoiner(", ", "(", ")");
        for (Class<?> type : method.getParameterTypes()) {
            parameters.add(type.getSimpleName());
        }
        StringJoiner thrown = new StringJoiner(", ", " throws ", "");
        thrown.setEmptyValue("");
        for (Class<?> type : method.getExceptionTypes()) {
            thrown.add(type.getSimpleName());
        }
        return method.getReturnType() + " " + method.getName() + parameters + thrown;
    }
}
