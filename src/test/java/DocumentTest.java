import java.io.IOException;
import java.lang.reflect.Method;
import java.nio.file.Files;
import java.nio.file.Path;
import java.util.HashSet;
import java.util.Map;
import java.util.Set;
import java.util.TreeMap;
import java.util.regex.Matcher;
import java.util.regex.Pattern;

/**
 * Each sentence that a test names stands in the document, and no word of the terms and of the
 * promises is without a test.
 */
public final class DocumentTest {
    private static final Path DOCUMENT = Path.of("../shared/DOC.md");
    private static final Pattern PROGRAM = Pattern.compile(" (\\d [A-Z]+): (.*)");
    private static final Class<?>[] TESTS = {
        FaceTest.class, LifeTest.class, GraphTermsTest.class, StepTermsTest.class, ThrowsTest.class,
        RankTest.class, NearestTest.class, GreatestTest.class, CoreTest.class,
        NewObjectTest.class, VertexTest.class, EdgeTest.class, RemoveTest.class, StartTest.class,
        StepTest.class, SaveTest.class, LoseTest.class, RecoverTest.class, StopTest.class,
        ValueTest.class, MessageTest.class, AggregateTest.class, AboutTest.class, CountTest.class};

    public static void main(String[] args) throws IOException {
        if (!Files.exists(DOCUMENT)) {
            System.out.println("there is no document to compare with");
            return;
        }
        Check check = new Check();
        Map<String, String> parts = parts();
        Map<String, String> rest = new TreeMap<>(parts);
        for (Class<?> tests : TESTS) {
            String part = Sentences.partOf(tests);
            check.that("the document has the part " + part, parts.containsKey(part));
            for (String sentence : sentences(tests)) {
                String text = parts.getOrDefault(part, "");
                check.that(part + " says once: " + sentence, text.indexOf(sentence) >= 0
                        && text.indexOf(sentence) == text.lastIndexOf(sentence));
                rest.computeIfPresent(part, (name, left) -> left.replace(sentence, ""));
            }
        }
        rest.forEach((part, left) -> check.that("every word of " + part + " is tested, but for: " + left,
                left.isBlank() || !(part.startsWith("Promise ") || part.startsWith("Terms"))));
        check.end();
    }

    private static Set<String> sentences(Class<?> tests) {
        Set<String> all = new HashSet<>();
        for (Method test : Sentences.of(tests)) {
            all.add(Sentences.sentenceOf(test));
        }
        return all;
    }

    /** The text under each heading in one line, the programs of the terms as parts of their own. */
    private static Map<String, String> parts() throws IOException {
        Map<String, String> parts = new TreeMap<>();
        String part = "";
        for (String line : Files.readAllLines(DOCUMENT)) {
            Matcher program = PROGRAM.matcher(line);
            if (line.startsWith("## ")) {
                part = line.substring(3);
            } else if (part.equals("Terms") && program.matches()) {
                parts.put("Terms: " + program.group(1), program.group(2));
            } else if (!line.isBlank() && !line.startsWith("```")) {
                parts.merge(part, withoutSignature(line.strip()), (before, next) -> before + " " + next);
            }
        }
        return parts;
    }

    /** A promise begins with the signature of its call, which FaceTest is about. */
    private static String withoutSignature(String line) {
        int end = line.indexOf("`: ");
        return line.startsWith("`") && end >= 0 ? line.substring(end + 3) : line;
    }
}
