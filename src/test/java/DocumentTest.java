import java.io.IOException;
import java.lang.reflect.Method;
import java.nio.file.Files;
import java.nio.file.Path;
import java.util.ArrayList;
import java.util.HashSet;
import java.util.List;
import java.util.Map;
import java.util.Set;
import java.util.TreeMap;
import java.util.regex.Matcher;
import java.util.regex.Pattern;
import java.util.stream.Stream;

/**
 * Each sentence that a test names stands in the document, and no word of the document is without a
 * test, but for its part on what is not promised.
 */
public final class DocumentTest {
    private static final Path DOCUMENT = Path.of("../shared/DOC.md");
    private static final Path TESTS = Path.of("src/test/java");
    private static final Pattern PROGRAM = Pattern.compile(" (\\d [A-Z]+): (.*)");
    private static final Pattern PROMISE = Pattern.compile("`([^`]*)`: (.*)");
    private static final int PROMISES = 15;

    private final Check check = new Check();
    /** The text under each heading in one line, the programs of the terms as parts of their own. */
    private final Map<String, String> parts = new TreeMap<>();
    /** The signatures with which the promises begin. */
    private final List<String> signatures = new ArrayList<>();

    public static void main(String[] args) throws Exception {
        if (!Files.exists(DOCUMENT)) {
            System.out.println("there is no document to compare with");
            return;
        }
        DocumentTest test = new DocumentTest();
        test.read();
        test.compareSignatures();
        test.compareSentences();
        test.check.end();
    }

    private void read() throws IOException {
        String part = "";
        for (String line : Files.readAllLines(DOCUMENT)) {
            Matcher program = PROGRAM.matcher(line);
            Matcher promise = PROMISE.matcher(line);
            if (line.startsWith("## ")) {
                part = line.substring(3);
            } else if (part.equals("Terms") && program.matches()) {
                parts.put("Terms: " + program.group(1), program.group(2));
            } else if (promise.matches()) {
                signatures.add(promise.group(1));
                parts.put(part, promise.group(2));
            } else if (!part.isEmpty() && !line.isBlank() && !line.startsWith("```")) {
                parts.merge(part, line.strip(), (before, next) -> before + " " + next);
            }
        }
        parts.remove("Not promised");
    }

    /** FaceTest holds the class to the face, so the promises need only begin with the same. */
    private void compareSignatures() {
        check.same("the number of promises", signatures.size(), PROMISES);
        String face = parts.getOrDefault("The public face", "");
        for (String signature : signatures) {
            check.that("the face tells of " + signature, face.contains("public " + signature + ";"));
        }
    }

    private void compareSentences() throws IOException, ClassNotFoundException {
        Map<String, String> rest = new TreeMap<>(parts);
        for (Class<?> tests : testsOfParts()) {
            String part = Sentences.partOf(tests);
            check.that("the document has the part " + part, parts.containsKey(part));
            for (String sentence : sentences(tests)) {
                String text = parts.getOrDefault(part, "");
                check.that(part + " says once: " + sentence, text.indexOf(sentence) >= 0
                        && text.indexOf(sentence) == text.lastIndexOf(sentence));
                rest.computeIfPresent(part, (name, left) -> left.replace(sentence, ""));
            }
        }
        rest.forEach((part, left) ->
                check.that("every word of " + part + " is tested, but for: " + left, left.isBlank()));
    }

    private static List<Class<?>> testsOfParts() throws IOException, ClassNotFoundException {
        List<Class<?>> all = new ArrayList<>();
        try (Stream<Path> files = Files.list(TESTS)) {
            for (String name : files.map(file -> file.getFileName().toString()).sorted().toList()) {
                if (name.endsWith("Test.java")) {
                    Class<?> tests = Class.forName(name.substring(0, name.length() - ".java".length()));
                    if (tests.isAnnotationPresent(Part.class)) {
                        all.add(tests);
                    }
                }
            }
        }
        return all;
    }

    private static Set<String> sentences(Class<?> tests) {
        Set<String> all = new HashSet<>();
        for (Method test : Sentences.of(tests)) {
            all.add(Sentences.sentenceOf(test));
        }
        return all;
    }
}
