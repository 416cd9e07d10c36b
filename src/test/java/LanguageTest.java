import java.io.IOException;
import java.nio.file.Files;
import java.nio.file.Path;
import java.util.ArrayList;
import java.util.List;
import java.util.Set;
import java.util.regex.Matcher;
import java.util.regex.Pattern;

/**
 * What a text can tell of the rules in ../shared/LANGUAGE.md, some of them narrower than they stand
 * there, as the program needs no more.
 */
public final class LanguageTest {
    private static final Path PROGRAM = Path.of("src/main/java/PulseGraph.java");
    private static final int MOST_LINES = 60;
    private static final int MOST_PARAMETERS = 7;
    private static final int MOST_CLASSES = 12;
    private static final Pattern LIBRARY = Pattern.compile("\\b(?!PulseGraph\\b)[A-Z][a-z]\\w*\\.(\\w+)");
    private static final Pattern HEAD = Pattern.compile(
            "^ {4,8}(?:public |private |static |final )*[\\w\\[\\]]+ \\w+\\(([^)]*)\\)[^;={]*\\{$", Pattern.MULTILINE);

    private final Check check = new Check();
    private final String code;

    private LanguageTest(String text) {
        code = text.replaceAll("(?s)/\\*.*?\\*/", "").replaceAll("//.*", "").replaceAll("\"[^\"\n]*\"", "\"\"");
    }

    public static void main(String[] args) throws IOException {
        LanguageTest test = new LanguageTest(Files.readString(PROGRAM));
        test.usesOnlyWhatIsLeftOfTheLanguage();
        test.usesOnlyTheLibraryThatIsLeft();
        test.keepsOnlyPlainConstants();
        test.throwsOnlyWhatTheFaceTells();
        test.makesObjectsOnlyOnce();
        test.staysShort();
        test.check.end();
    }

    private void usesOnlyWhatIsLeftOfTheLanguage() {
        for (String word : List.of("package", "try", "catch", "finally", "synchronized", "assert", "volatile",
                "transient", "native", "strictfp", "float", "var", "instanceof", "protected")) {
            check.that("rules 1 to 6: no " + word, !Pattern.compile("\\b" + word + "\\b").matcher(code).find());
        }
        for (String sign : List.of("->", "::", "@", "Double", "Float", "\"\" +", "+ \"\"", "static {")) {
            check.that("rules 2 to 6: no " + sign, !code.contains(sign));
        }
    }

    private void usesOnlyTheLibraryThatIsLeft() {
        check.that("rule 4: the only import", all("^import (.*);$", code).equals(
                List.of("java.util.NoSuchElementException")));
        Matcher used = LIBRARY.matcher(code.replaceFirst("import .*", ""));
        while (used.find()) {
            check.that("rule 4: " + used.group(), used.group().equals("System.arraycopy"));
        }
    }

    private void keepsOnlyPlainConstants() {
        for (String field : all("^ +(?:public |private )?(static (?!final class|void|double \\w+\\().*;)$", code)) {
            check.that("rule 5: " + field, field.matches("static final int [A-Z_]+ = \\d+;"));
        }
    }

    private void throwsOnlyWhatTheFaceTells() {
        Set<String> told = Set.of("IllegalArgumentException", "IllegalStateException", "NoSuchElementException",
                "IndexOutOfBoundsException", "UnsupportedOperationException");
        List<String> thrown = all("\\bthrow (.*)$", code);
        check.that("there are throws", !thrown.isEmpty());
        for (String one : thrown) {
            check.that("rule 6: throw " + one, one.matches("new \\w+\\(\"\"\\);")
                    && told.contains(one.replaceAll("new (\\w+).*", "$1")));
        }
    }

    /** In fields, in the constructor and behind a throw: so no run of calls can fill the room. */
    private void makesObjectsOnlyOnce() {
        for (String line : all("^(.*\\bnew .*)$", code)) {
            check.that("rule 12: " + line.strip(), line.contains("throw new ")
                    || line.matches(" {8}(private )?final .*")
                    || line.matches(" {8}\\w+ = new (Graph|Pulse)\\(\\);"));
        }
    }

    private void staysShort() {
        check.that("rule 11: few classes", all("\\bclass (\\w+) \\{", code).size() <= MOST_CLASSES);
        Matcher head = HEAD.matcher(code);
        int methods = 0;
        while (head.find()) {
            methods++;
            String name = head.group().strip();
            check.that("rule 11: few parameters: " + name, head.group(1).split(",").length <= MOST_PARAMETERS);
            check.that("rule 11: few lines: " + name, linesOfBlock(head.end()) <= MOST_LINES);
        }
        check.that("the methods were found: " + methods, methods >= 14);
    }

    private int linesOfBlock(int begin) {
        int depth = 1;
        int lines = 1;
        for (int i = begin; i < code.length() && depth > 0; i++) {
            char c = code.charAt(i);
            depth += c == '{' ? 1 : c == '}' ? -1 : 0;
            lines += c == '\n' ? 1 : 0;
        }
        return lines;
    }

    private static List<String> all(String pattern, String text) {
        List<String> found = new ArrayList<>();
        Matcher matcher = Pattern.compile(pattern, Pattern.MULTILINE).matcher(text);
        while (matcher.find()) {
            found.add(matcher.group(1));
        }
        return found;
    }
}
