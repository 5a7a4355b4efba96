import java.io.IOException;
import java.lang.reflect.Method;
import java.lang.reflect.Modifier;
import java.net.URL;
import java.net.URLClassLoader;
import java.nio.file.Files;
import java.nio.file.Path;
import java.util.ArrayList;
import java.util.Comparator;
import java.util.List;
import java.util.regex.Matcher;
import java.util.regex.Pattern;
import java.util.stream.Stream;

/** What README.md shows as an example holds when it is run: each line of its Java that ends in "// gives .." or "// throws ..". */
public final class ReadmeExamples {
    public interface Call {
        Object run();
    }

    private static final Pattern TOLD = Pattern.compile("(?:int (\\w+) = )?(.*);\\s*// (gives|throws) ([-\\w]+)(?:: .*)?");
    private static int told;
    private static int wrong;

    public static void main(String[] args) throws Exception {
        String readme = Files.readString(Path.of("README.md"));
        List<String> blocks = blocksOf(readme);
        Path out = Files.createTempDirectory("readme");
        try {
            runAll(blocks, out);
        } finally {
            removeAll(out);
        }
        checkNames(readme);
        if (wrong > 0 || told < 40) {
            System.out.println(wrong + " of " + told + " are not as README.md tells");
            System.exit(1);
        }
    }

    /** Called by the examples, once they are a program. */
    public static void check(String line, String due, Call call) {
        told++;
        String got;
        try {
            got = "gives " + call.run();
        } catch (RuntimeException e) {
            got = "throws " + e.getClass().getSimpleName();
        }
        if (!got.equals(due)) {
            wrong++;
            System.out.println("README.md: " + line + ": " + got);
        }
    }

    private static List<String> blocksOf(String readme) {
        List<String> blocks = new ArrayList<>();
        Matcher m = Pattern.compile("```java\n(.*?)```", Pattern.DOTALL).matcher(readme);
        while (m.find()) {
            blocks.add(m.group(1));
        }
        return blocks;
    }

    private static void runAll(List<String> blocks, Path out) throws Exception {
        StringBuilder program = new StringBuilder("public final class Shown {\n");
        for (int i = 0; i < blocks.size(); i++) {
            program.append("    public static void block").append(i).append("() {\n");
            for (String line : blocks.get(i).split("\n")) {
                program.append(checked(line));
            }
            program.append("    }\n");
        }
        Path file = out.resolve("Shown.java");
        Files.writeString(file, program.append("}\n"));
        String classes = System.getProperty("java.class.path");
        ProcessBuilder javac = new ProcessBuilder("javac", "-cp", classes, "-d", out.toString(), file.toString());
        if (javac.inheritIO().start().waitFor() != 0) {
            wrong++;
            return;
        }
        try (URLClassLoader loader = new URLClassLoader(new URL[] {out.toUri().toURL()})) {
            Class<?> shown = loader.loadClass("Shown");
            for (int i = 0; i < blocks.size(); i++) {
                shown.getMethod("block" + i).invoke(null);
            }
        }
    }

    private static String checked(String line) {
        Matcher m = TOLD.matcher(line);
        if (!m.matches()) {
            return line + "\n";
        }
        String due = m.group(3) + " " + m.group(4);
        String start = "ReadmeExamples.check(\"" + m.group(2).replace("\"", "\\\"") + "\", \"" + due + "\", () -> ";
        if (m.group(1) == null) {
            return start + m.group(2) + ");\n";
        }
        return "int " + m.group(1) + " = " + m.group(2) + ";\n" + start + m.group(1) + ");\n";
    }

    /** README.md tells of each call of the face, in a row of its table. */
    private static void checkNames(String readme) {
        for (Method m : ObjectRules.class.getDeclaredMethods()) {
            if (Modifier.isPublic(m.getModifiers()) && !readme.contains("\n| `" + m.getName() + "(")) {
                wrong++;
                System.out.println("README.md does not tell of " + m.getName());
            }
        }
    }

    private static void removeAll(Path out) throws IOException {
        try (Stream<Path> files = Files.walk(out)) {
            for (Path file : files.sorted(Comparator.reverseOrder()).toList()) {
                Files.delete(file);
            }
        }
    }
}
