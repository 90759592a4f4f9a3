import java.io.IOException;
import java.nio.file.Files;
import java.nio.file.Path;
import java.util.ArrayList;
import java.util.List;
import java.util.regex.Matcher;
import java.util.regex.Pattern;

/**
 * Makes a program of the Java that README.md shows: all examples, in their order, as one method. Behind a call,
 * '// answers X' and '// throws E' become looks at what the call does.
 */
final class ReadmeExamples {
    private static final Pattern TOLD = Pattern.compile("(.*\\S);\\s*// (answers|throws) (\\S+)");
    private static final Pattern KEPT = Pattern.compile("(?:int|long) (\\w+) = .*");

    /** The arguments are the file to read and the file to write, the source of a class ReadmeProgram. */
    public static void main(String[] args) throws IOException {
        Files.write(Path.of(args[1]), program(shown(Files.readAllLines(Path.of(args[0])))));
    }

    private static List<String> shown(List<String> readme) {
        List<String> lines = new ArrayList<>();
        boolean inside = false;
        for (String line : readme) {
            if (line.startsWith("```")) {
                inside = line.equals("```java");
            } else if (inside) {
                lines.add(line);
            }
        }
        return lines;
    }

    private static List<String> program(List<String> shown) {
        List<String> program = new ArrayList<>();
        program.add("final class ReadmeProgram {");
        program.add("public static void main(String[] args) {");
        for (String line : shown) {
            program.add(looked(line));
        }
        program.add("Check.end();");
        program.add("}");
        // Never called, but it has to compile: the lines as a reader would copy them.
        program.add("static void asShown() {");
        program.addAll(shown);
        program.add("}");
        program.add("}");
        return program;
    }

    private static String looked(String line) {
        Matcher told = TOLD.matcher(line);
        if (!told.matches()) {
            return withoutComment(line);
        }
        String call = told.group(1);
        String due = told.group(3);
        String what = "Check.same(\"README: " + call + "\", ";
        if (told.group(2).equals("throws")) {
            return what + "\"" + due + "\", Check.outcome(() -> { " + call + "; return 0; }));";
        }
        Matcher kept = KEPT.matcher(call);
        if (kept.matches()) {
            return call + "; " + what + due + ", " + kept.group(1) + ");";
        }
        return what + due + ", " + call + ");";
    }

    /** Another comment would be one that nobody looks at, say a misspelt '// answer'. */
    private static String withoutComment(String line) {
        if (line.contains("//")) {
            throw new IllegalArgumentException("neither '// answers X' nor '// throws E': " + line);
        }
        return line;
    }
}
