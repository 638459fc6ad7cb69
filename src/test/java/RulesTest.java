import java.io.IOException;
import java.nio.file.Files;
import java.nio.file.Path;
import java.util.regex.Matcher;
import java.util.regex.Pattern;

/**
 * Those rules of LANGUAGE.md that can be seen in the text of the class. Where a rule leaves what the class
 * does not need (texts, doubles, while, parts of the library), the test asks for none of it: that is plainer to see.
 */
public final class RulesTest {
    private static final int LONGEST_METHOD = 60;
    private static final int MOST_CLASSES = 12;
    private static final int MOST_PARAMETERS = 7;
    private static final Check CHECK = new Check();

    public static void main(String[] args) throws IOException {
        String source = Files.readString(Path.of("src/main/java/Bindery.java"));
        String code = source.replaceAll("(?s)/\\*.*?\\*/", "").replaceAll("//[^\n]*", "");
        absent(code, "the file: no package, no library but java.lang", "\\b(package|import)\\b");
        absent(code, "rule 2: no lambda, no method reference", "->|::");
        absent(code, "rule 3: numbers and own classes alone are used", "\\b(double|float|String|Integer\\s+\\w+\\s*[=;])");
        absent(code, "rule 4: none whose name ends in Exact", "Exact\\b");
        absent(code, "rule 4: no other part of the library", "\\b(System|Thread|Runtime|Object|Class|Random|Arrays)\\b");
        absent(code, "rule 5: a static field is final", "\\bstatic (int|long|boolean|char|byte|short)(\\[\\])? \\w+\\s*[=;,]");
        absent(code, "rule 5: no static initialiser", "\\bstatic\\s*\\{");
        absent(code, "rule 6: none of these", "\\b(throw|throws|try|catch|finally|synchronized|assert)\\b");
        absent(code, "rule 6: no equals, hashCode, toString", "\\b(equals|hashCode|toString)\\b");
        absent(code, "rule 7: no division whose divisor could be a variable", "[/%]=?\\s*[a-z(]");
        absent(code, "rule 9: a loop counts against a bound", "\\bwhile\\b|\\bfor\\s*\\(\\s*;|;\\s*;");
        CHECK.holds("rule 3: characters 0 to 255", source.chars().allMatch(c -> c < 256));
        CHECK.holds("rule 11: some twelve classes", matches(code, "\\b(class|record|enum|interface) [A-Z]\\w*") <= MOST_CLASSES);
        methods(code);
        CHECK.end();
    }

    private static void absent(String code, String rule, String pattern) {
        Matcher seen = Pattern.compile(pattern).matcher(code);
        boolean found = seen.find();
        CHECK.holds(found ? rule + ": " + seen.group().strip() : rule, !found);
    }

    private static int matches(String code, String pattern) {
        return (int) Pattern.compile(pattern).matcher(code).results().count();
    }

    private static void methods(String code) {
        Matcher head = Pattern.compile("\\n( +)[\\w\\[\\] ]*\\b(\\w+)\\(([^()]*)\\) \\{\\n").matcher(code);
        int seen = 0;
        while (head.find()) {
            int end = code.indexOf("\n" + head.group(1) + "}", head.start());
            String body = code.substring(head.end(), Math.max(head.end(), end));
            CHECK.holds("rule 11: " + head.group(2) + " is short", body.lines().count() <= LONGEST_METHOD);
            CHECK.holds("rule 11: parameters of " + head.group(2), head.group(3).split(",").length <= MOST_PARAMETERS);
            seen++;
        }
        CHECK.holds("methods were read: " + seen, seen >= 30);
    }
}
