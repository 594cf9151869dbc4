import java.io.IOException;
import java.nio.file.Files;
import java.nio.file.Path;
import java.util.ArrayList;
import java.util.List;
import java.util.regex.Matcher;
import java.util.regex.Pattern;

/**
 * Writes a test out of the Java that README.md shows, in the form of those under ../shared/tests: one program of all its
 * blocks, which asks each call for the answer that stands behind it. .ci/run compiles that together with the class.
 */
final class ReadmeProgram {
    static final String NAME = "ReadmeRuns";

    /** What is made or asked, and what is said of it: a number or a constant's name, then a colon and words for people. */
    private static final Pattern STATEMENT = Pattern.compile(
        "(?:(?<type>PlyPlates|int|long) (?<name>\\w+) = )?(?<asked>[^;]+);(?:\\s+// (?<answer>[^:]+)(?:: .+)?)?");
    private static final Pattern NUMBER = Pattern.compile("-?\\d+");
    private static final Pattern CONSTANT = Pattern.compile("NONE|BAD|STATE|FULL|NO");

    private ReadmeProgram() {
    }

    public static void main(String[] args) throws IOException {
        List<String> lines = shown(Files.readString(Path.of(args[0])));
        System.out.println("public final class " + NAME + " {");
        System.out.println("  private static int wrong = 0;");
        System.out.println("  private static void due(String call, long got, long want) {");
        System.out.println("    if (got != want) { wrong++; System.out.println(call + \" answered \" + got"
            + " + \", README.md says \" + want); }");
        System.out.println("  }");
        System.out.println("  public static void main(String[] args) {");
        for (String line : lines) {
            System.out.println("    " + statement(line));
        }
        System.out.println("    if (wrong != 0) { System.exit(1); }");
        System.out.println("    System.out.println(\"" + lines.size() + " lines are as README.md says\");");
        System.out.println("  }");
        System.out.println("}");
    }

    /** The lines of all Java blocks but those that hold only words for people. */
    static List<String> shown(String readme) {
        List<String> lines = new ArrayList<>();
        boolean isInside = false;
        for (String raw : readme.split("\n")) {
            String line = raw.strip();
            if (line.startsWith("```")) {
                isInside = line.equals("```java");
            } else if (isInside && !line.isEmpty() && !line.startsWith("//")) {
                lines.add(line);
            }
        }
        return lines;
    }

    /** A line that tells no answer, or one that can't be read, is refused: all that is shown is to be asked. */
    static String statement(String line) {
        Matcher m = STATEMENT.matcher(line);
        if (!m.matches()) {
            throw new IllegalArgumentException("README.md shows what can't be read: " + line);
        }
        if ("PlyPlates".equals(m.group("type"))) {
            return m.group("type") + " " + m.group("name") + " = " + m.group("asked") + ";";
        }
        if (m.group("answer") == null) {
            throw new IllegalArgumentException("README.md tells no answer: " + line);
        }
        String made = m.group("type") == null ? "" : m.group("type") + " " + m.group("name") + " = "
            + m.group("asked") + "; ";
        String got = m.group("type") == null ? m.group("asked") : m.group("name");
        return made + "due(\"" + m.group("asked") + "\", " + got + ", " + wanted(m.group("answer")) + ");";
    }

    private static String wanted(String answer) {
        if (NUMBER.matcher(answer).matches()) {
            return answer + "L";
        }
        if (CONSTANT.matcher(answer).matches()) {
            return "PlyPlates." + answer;
        }
        throw new IllegalArgumentException("README.md tells an answer that can't be read: " + answer);
    }
}
