import java.io.IOException;
import java.lang.reflect.Method;
import java.lang.reflect.Modifier;
import java.nio.file.Files;
import java.nio.file.Path;
import java.util.List;
import java.util.Set;
import java.util.TreeSet;
import java.util.regex.Matcher;
import java.util.regex.Pattern;

/**
 * Writes the test ReadmeExamples from the blocks of Java in README.md. The examples are compiled as they
 * stand there, so that they can neither differ from what the class answers nor from Java.
 */
public final class ReadmeWriter {
    private static final Pattern CALL = Pattern.compile("\\s*(yard\\.(\\w+)\\([^\"\\\\]*\\));\\s*// (-?\\w+)(: .*)?");

    private final StringBuilder test = new StringBuilder();
    private final Set<String> shown = new TreeSet<>();
    private boolean inBlock = false;

    private ReadmeWriter() {
    }

    public static void main(String[] args) throws IOException {
        if (args.length != 2) {
            give("the path of README.md and that of the test are needed");
        }
        String test = new ReadmeWriter().write(Files.readAllLines(Path.of(args[0])));
        Files.writeString(Path.of(args[1]), test);
    }

    private String write(List<String> lines) {
        test.append("public final class ReadmeExamples {\n    public static void main(String[] args) {\n");
        for (int n = 1; n <= lines.size(); n++) {
            line(n, lines.get(n - 1));
        }
        test.append("        Due.end();\n    }\n}\n");
        if (inBlock) {
            give("the last block has no end");
        }
        allMethodsAreShown();
        return test.toString();
    }

    private void line(int n, String line) {
        if (!inBlock && line.equals("```java")) {
            inBlock = true;
            test.append("{\n");
        } else if (inBlock && line.equals("```")) {
            inBlock = false;
            test.append("}\n");
        } else if (inBlock) {
            example(n, line);
        }
    }

    private void example(int n, String line) {
        Matcher call = CALL.matcher(line);
        if (call.matches()) {
            shown.add(call.group(2));
            test.append("Due.is(\"README.md, line " + n + ": " + call.group(1) + "\", ");
            test.append(call.group(1) + ", " + answer(call.group(3)) + ");\n");
        } else if (line.contains("yard.")) {
            give("line " + n + " is no call of its own with its answer: " + line);
        } else {
            test.append(line).append('\n');
        }
    }

    /** A number may be beyond the ints; a name is one of the example's own. */
    private static String answer(String shown) {
        return shown.matches("-?[0-9]+|0x[0-9a-f]+") ? shown + "L" : shown;
    }

    private void allMethodsAreShown() {
        for (Method method : HiveColumns.class.getDeclaredMethods()) {
            if (Modifier.isPublic(method.getModifiers()) && !shown.contains(method.getName())) {
                give("README.md shows no call of " + method.getName() + "()");
            }
        }
    }

    private static void give(String fault) {
        System.out.println(fault);
        System.exit(1);
    }
}
