import java.io.IOException;
import java.nio.file.Files;
import java.nio.file.Path;
import java.util.List;
import java.util.regex.Matcher;
import java.util.regex.Pattern;

/** What can be told of ../shared/LANGUAGE.md from the text of the class alone; Face tells the rest of rule 1. */
public final class Language {
    private static final Pattern METHOD = Pattern.compile("^ {4,8}(?:(?:public|private|static|final) )*[\\w\\[\\]]+ \\w+\\((.*?)\\)[^;=]*\\{$");
    private static final Pattern WORD = Pattern.compile("[A-Za-z_]\\w*");

    /** Rules 2, 3 and 6: what Java has and the class has not. */
    private static final List<String> NO_WORDS = List.of("try", "catch", "finally", "synchronized", "assert",
            "package", "Object", "float", "double", "var", "record", "sealed", "native", "volatile", "transient", "strictfp",
            "Thread", "Random", "System", "Runtime", "hashCode", "equals", "toString", "getMessage", "protected");

    private static final String THROWN = "(IllegalStateException|IllegalArgumentException|IndexOutOfBoundsException"
            + "|ArithmeticException|UnsupportedOperationException|NoSuchElementException)";

    public static void main(String[] args) throws IOException {
        Check t = new Check();
        List<String> lines = Files.readAllLines(Path.of("src/main/java/ObjectRules.java"));
        StringBuilder code = new StringBuilder();
        for (String line : lines) {
            code.append(withoutComment(line)).append('\n');
        }
        imports(t, lines);
        words(t, code.toString());
        thrown(t, code.toString());
        loops(t, code.toString());
        methods(t, lines);
        classes(t, code.toString());
        t.end();
    }

    private static String withoutComment(String line) {
        String trimmed = line.trim();
        boolean comment = trimmed.startsWith("//") || trimmed.startsWith("/*") || trimmed.startsWith("*");
        return comment ? "" : line;
    }

    private static String withoutTexts(String code) {
        return code.replaceAll("\"[^\"\n]*\"", "\"\"");
    }

    private static int times(String code, String pattern) {
        Matcher m = Pattern.compile(pattern).matcher(code);
        int n = 0;
        while (m.find()) {
            n++;
        }
        return n;
    }

    /** Rule 4. */
    private static void imports(Check t, List<String> lines) {
        for (String line : lines) {
            if (line.startsWith("import ")) {
                boolean listed = line.equals("import java.util.Arrays;") || line.equals("import java.util.NoSuchElementException;");
                t.yes(listed, "rule 4: " + line);
            }
        }
    }

    private static void words(Check t, String code) {
        String bare = withoutTexts(code);
        Matcher m = WORD.matcher(bare);
        while (m.find()) {
            t.no(NO_WORDS.contains(m.group()), "a word that is not to be used: " + m.group());
        }
        t.is(0, times(bare, "->"), "rule 2: no lambda");
        t.is(0, times(bare, "::"), "rule 2: no method reference");
        t.is(0, times(bare, "@"), "no annotation");
        t.is(0, times(code, "\"\\s*\\+|\\+\\s*\""), "rule 10: texts are not joined by +");
        t.is(0, times(bare, "static \\{"), "rule 5: no static initialiser block");
        t.is(0, times(bare, "Exact\\("), "rule 4: no Exact");
        t.is(times(bare, "Arrays\\.|Math\\."), times(bare, "Arrays\\.fill\\(|Math\\.max\\("), "rule 4: what is used of the library");
    }

    /** Rule 6: with a written text, and none in a constructor. */
    private static void thrown(Check t, String code) {
        t.is(times(code, "\\bthrow\\b"), times(code, "throw new " + THROWN + "\\(\"[^\"]*\"\\);"), "rule 6: throw new E(\"a written text\")");
        t.yes(code.contains("    public ObjectRules() {\n    }\n"), "rule 6: the constructor throws nothing");
    }

    /** Rule 9: only loops with a counter. */
    private static void loops(Check t, String code) {
        String bare = withoutTexts(code);
        t.is(0, times(bare, "\\b(while|do)\\b"), "rule 9: no while");
        t.is(times(bare, "\\bfor\\b"), times(bare, "for \\(int (i|index) = \\w+( - 1)?; (i|index) (<|>=) "), "rule 9: each for counts against a bound");
    }

    /** Rule 11. */
    private static void methods(Check t, List<String> lines) {
        int found = 0;
        for (int i = 0; i < lines.size(); i++) {
            Matcher m = METHOD.matcher(lines.get(i));
            if (m.matches() && !lines.get(i).contains(" class ")) {
                found++;
                String name = lines.get(i).trim();
                t.yes(m.group(1).isEmpty() || m.group(1).split(",").length <= 7, "rule 11: at most seven parameters: " + name);
                String end = lines.get(i).replaceAll("\\S.*", "") + "}";
                t.yes(lines.subList(i, Math.min(lines.size(), i + 60)).contains(end), "rule 11: some sixty lines: " + name);
            }
        }
        t.yes(found > 150, "the methods were found: " + found);
    }

    private static void classes(Check t, String code) {
        int all = times(code, "\\bclass \\w+");
        t.yes(all <= 12, "rule 11: at most some twelve classes: " + all);
        t.is(all - 1, times(code, "    private static final class "), "rule 1: those inside are private and static");
    }
}
