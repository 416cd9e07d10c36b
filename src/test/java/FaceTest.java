import java.lang.reflect.Constructor;
import java.lang.reflect.Field;
import java.lang.reflect.Method;
import java.lang.reflect.Modifier;
import java.util.Set;
import java.util.StringJoiner;
import java.util.TreeSet;

/** Nothing of the class but what the document tells can be seen from outside. */
@Part("The public face")
public final class FaceTest {
    private static final String METHODS =
            "public int vertex(int vertex, double value) throws IllegalArgumentException, IllegalStateException; "
            + "public int edge(int from, int to, double length) throws IllegalArgumentException, "
            + "java.util.NoSuchElementException, IllegalStateException; "
            + "public int remove(int vertex) throws IllegalArgumentException, java.util.NoSuchElementException, "
            + "IllegalStateException; "
            + "public int start(int program, int number, boolean combines) throws IllegalArgumentException, "
            + "IllegalStateException; "
            + "public int step(int n) throws IllegalArgumentException, IllegalStateException, "
            + "UnsupportedOperationException; "
            + "public int save() throws IllegalStateException; "
            + "public int lose(int worker) throws IllegalArgumentException, IllegalStateException; "
            + "public int recover() throws IllegalStateException, UnsupportedOperationException; "
            + "public int stop() throws IllegalStateException; "
            + "public double value(int vertex) throws IllegalArgumentException, java.util.NoSuchElementException; "
            + "public double message(int vertex, int i) throws IllegalArgumentException, "
            + "java.util.NoSuchElementException, IndexOutOfBoundsException; "
            + "public double aggregate(); "
            + "public int about(int vertex, int what) throws IllegalArgumentException, "
            + "java.util.NoSuchElementException; "
            + "public int count(int what) throws IllegalArgumentException; }";

    public static void main(String[] args) throws Exception {
        Sentences.run(FaceTest.class);
    }

    @Sentence("public final class PulseGraph {")
    static void isPublicAndFinal(Check check) {
        int modifiers = PulseGraph.class.getModifiers();
        check.that("the class is public", Modifier.isPublic(modifiers));
        check.that("the class is final", Modifier.isFinal(modifiers));
        check.that("it extends no other", PulseGraph.class.getSuperclass() == Object.class);
        check.same("the number of its interfaces", PulseGraph.class.getInterfaces().length, 0);
        check.that("it has no package", PulseGraph.class.getPackageName().isEmpty());
    }

    @Sentence("public final class PulseGraph {")
    static void hidesTheClassesInside(Check check) {
        for (Class<?> inside : PulseGraph.class.getDeclaredClasses()) {
            int modifiers = inside.getModifiers();
            check.that(inside + " is static", Modifier.isStatic(modifiers));
            check.that(inside + " is neither public nor protected",
                    !Modifier.isPublic(modifiers) && !Modifier.isProtected(modifiers));
        }
    }

    @Sentence("public static final int IDLE = 0; public static final int RUNNING = 1; "
            + "public static final int BROKEN = 2;")
    static void hasThreeConstantsAndNoOtherField(Check check) throws IllegalAccessException {
        Set<String> seen = new TreeSet<>();
        for (Field field : PulseGraph.class.getDeclaredFields()) {
            if (!Modifier.isPrivate(field.getModifiers())) {
                seen.add(Modifier.toString(field.getModifiers()) + " " + field.getType() + " "
                        + field.getName() + " = " + field.get(null));
            }
            check.that(field + " is final if it is static", Modifier.isFinal(field.getModifiers())
                    || !Modifier.isStatic(field.getModifiers()));
        }
        check.that("the constants are as due: " + seen, seen.equals(Set.of("public static final int IDLE = 0",
                "public static final int RUNNING = 1", "public static final int BROKEN = 2")));
    }

    @Sentence("public PulseGraph();")
    static void hasOneConstructor(Check check) {
        Constructor<?>[] made = PulseGraph.class.getDeclaredConstructors();
        check.same("the number of constructors", made.length, 1);
        check.that("the constructor is public", Modifier.isPublic(made[0].getModifiers()));
        check.same("the number of its parameters", made[0].getParameterCount(), 0);
        check.same("the number of what it throws", made[0].getExceptionTypes().length, 0);
    }

    @Sentence(METHODS)
    static void hasTheseMethodsAndNoOther(Check check) {
        Set<String> due = new TreeSet<>();
        for (String method : METHODS.substring(0, METHODS.length() - "; }".length()).split("; ")) {
            due.add(withoutNames(method));
        }
        check.same("the number of methods that are due", due.size(), 14);
        Set<String> seen = new TreeSet<>();
        for (Method method : PulseGraph.class.getDeclaredMethods()) {
            if (!Modifier.isPrivate(method.getModifiers())) {
                seen.add(told(method));
            }
        }
        check.that("the methods are as due: " + seen, seen.equals(due));
    }

    @Sentence(METHODS)
    static void hidesNoMethodUnderTheSameName(Check check) {
        for (Method method : PulseGraph.class.getDeclaredMethods()) {
            check.that("the face does not tell of a private " + method.getName(),
                    !Modifier.isPrivate(method.getModifiers()) || !METHODS.contains(" " + method.getName() + "("));
        }
    }

    /** A compiled class does not tell how its parameters are called. */
    private static String withoutNames(String method) {
        int open = method.indexOf('(');
        int shut = method.indexOf(')');
        String parameters = method.substring(open, shut).replaceAll(" \\w+(?=,|$)", "");
        return method.substring(0, open) + parameters + method.substring(shut);
    }

    private static String told(Method method) {
        StringJoiner parameters = new StringJoiner(", ", "(", ")");
        for (Class<?> type : method.getParameterTypes()) {
            parameters.add(type.getName());
        }
        StringJoiner thrown = new StringJoiner(", ", " throws ", "");
        thrown.setEmptyValue("");
        for (Class<?> type : method.getExceptionTypes()) {
            thrown.add(type.getName().replace("java.lang.", ""));
        }
        return Modifier.toString(method.getModifiers()) + " " + method.getReturnType() + " "
                + method.getName() + parameters + thrown;
    }
}
