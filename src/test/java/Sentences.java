import java.lang.reflect.InvocationTargetException;
import java.lang.reflect.Method;
import java.util.ArrayList;
import java.util.Comparator;
import java.util.List;

/** Runs the tests of a class, each under the name of its part and its sentence. */
final class Sentences {
    private Sentences() {
    }

    static void run(Class<?> tests) throws IllegalAccessException {
        Check check = new Check();
        for (Method test : of(tests)) {
            check.begin(partOf(tests) + " | \"" + sentenceOf(test) + "\" | " + test.getName());
            try {
                test.invoke(null, check);
            } catch (InvocationTargetException e) {
                check.tell("the test ended with " + e.getCause());
            }
        }
        check.end();
    }

    /** By their names, as the language gives methods in no order. */
    static List<Method> of(Class<?> tests) {
        List<Method> all = new ArrayList<>();
        for (Method method : tests.getDeclaredMethods()) {
            if (method.isAnnotationPresent(Sentence.class)) {
                all.add(method);
            }
        }
        all.sort(Comparator.comparing((Method test) -> sentenceOf(test)).thenComparing(Method::getName));
        return all;
    }

    static String partOf(Class<?> tests) {
        return tests.getAnnotation(Part.class).value();
    }

    static String sentenceOf(Method test) {
        return test.getAnnotation(Sentence.class).value();
    }
}
