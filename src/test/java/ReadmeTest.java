import java.lang.reflect.Method;
import java.lang.reflect.Modifier;
import java.nio.file.Files;
import java.nio.file.Path;
import java.util.ArrayList;
import java.util.List;
import java.util.regex.Matcher;
import java.util.regex.Pattern;
import javax.tools.ToolProvider;

/** The examples of README.md answer what stands behind them, and its table of calls has each call. */
public final class ReadmeTest {
    private static final Path README = Path.of("README.md");
    private static final String MAKING = "PulseGraph x = new PulseGraph();";
    private static final Pattern ANSWERED = Pattern.compile("(x\\..*);\\s*// (-?[\\d.]+)(:.*)?");

    public static void main(String[] args) throws Exception {
        Check check = new Check();
        List<String> lines = Files.readAllLines(README);
        List<List<String>> examples = examples(lines);
        check.same("the number of examples", examples.size(), 2);
        for (int i = 0; i < examples.size(); i++) {
            follow(check, "Example" + i, examples.get(i));
        }
        lookForEachCall(check, lines);
        check.end();
    }

    private static List<List<String>> examples(List<String> lines) {
        List<List<String>> all = new ArrayList<>();
        boolean inside = false;
        for (String line : lines) {
            if (line.startsWith("```")) {
                inside = line.equals("```java");
                if (inside) {
                    all.add(new ArrayList<>());
                }
            } else if (inside) {
                all.get(all.size() - 1).add(line);
            }
        }
        return all;
    }

    /** Compiles the example to where the tests are, so that it can use what they use. */
    private static void follow(Check check, String name, List<String> example) throws Exception {
        String directory = System.getProperty("java.class.path");
        Path file = Path.of(directory, name + ".java");
        Files.write(file, source(check, name, example));
        int exit = ToolProvider.getSystemJavaCompiler().run(null, System.out, System.out,
                "-d", directory, "-cp", directory, file.toString());
        check.same("compiling " + name, exit, 0);
        if (exit == 0) {
            Class.forName(name).getDeclaredMethod("follow", Check.class).invoke(null, check);
        }
    }

    private static List<String> source(Check check, String name, List<String> example) {
        List<String> source = new ArrayList<>();
        source.add("final class " + name + " { static void follow(Check check) {");
        for (String line : example) {
            Matcher answered = ANSWERED.matcher(line);
            if (answered.matches()) {
                String call = answered.group(1);
                source.add("check.same(\"" + call + " in " + name + "\", " + call + ", " + answered.group(2) + ");");
            } else {
                check.that("only the making of an object has no answer: " + line, line.equals(MAKING));
                source.add(line);
            }
        }
        source.add("} }");
        return source;
    }

    private static void lookForEachCall(Check check, List<String> lines) {
        for (Method method : PulseGraph.class.getDeclaredMethods()) {
            String row = "| `" + method.getName() + "(";
            if (Modifier.isPublic(method.getModifiers())) {
                check.that("a row of the table is about " + method.getName(),
                        lines.stream().anyMatch(line -> line.startsWith(row) && line.split("\\|").length == 6));
            }
        }
    }
}
