import java.io.File;
import java.io.IOException;
import java.lang.reflect.Field;
import java.lang.reflect.Method;
import java.lang.reflect.Modifier;
import java.nio.file.Files;
import java.nio.file.Path;
import java.util.Arrays;
import java.util.List;
import java.util.Set;
import java.util.TreeSet;
import java.util.regex.Matcher;
import java.util.regex.Pattern;

/** README.md shows every call of the face and every constant, and names every test; its program asks all that it shows. */
public final class ReadmeTest {
    private static final int MOST_CALLS = 512;

    private ReadmeTest() {
    }

    public static void main(String[] args) throws IOException, IllegalAccessException {
        String readme = Files.readString(Path.of("README.md"));
        calls(readme);
        constants(readme);
        tests(readme);
        shownLines();
        statements();
        refusedStatements();
        Checks.end();
    }

    private static void calls(String readme) {
        List<String> lines = ReadmeProgram.shown(readme);
        String shown = String.join("\n", lines);
        for (Method m : PlyPlates.class.getDeclaredMethods()) {
            if (Modifier.isPublic(m.getModifiers())) {
                Checks.dueTrue("README.md shows " + m.getName(), shown.contains("x." + m.getName() + "("));
            }
        }
        Checks.dueTrue("README.md shows no more calls than an object has", lines.size() <= MOST_CALLS);
        long made = lines.stream().filter(line -> line.contains("new PlyPlates(")).count();
        Checks.due("objects that README.md makes", made, 1);
    }

    private static void constants(String readme) throws IllegalAccessException {
        String answers = String.join("\n", ReadmeProgram.shown(readme));
        for (Field f : PlyPlates.class.getFields()) {
            Checks.dueTrue("README.md shows an answer " + f.getName(), answers.contains("// " + f.getName()));
            boolean isInt = f.getType() == int.class;
            String told = "`" + f.getName() + "`" + (isInt ? " (" + f.getInt(null) : ", the least long");
            Checks.dueTrue("README.md tells what " + f.getName() + " is", readme.contains(told));
        }
    }

    private static void tests(String readme) {
        Set<String> named = new TreeSet<>();
        Matcher m = Pattern.compile("(?m)^- `(\\w+Test)`: ").matcher(readme);
        while (m.find()) {
            named.add(m.group(1) + ".java");
        }
        String[] files = new File("src/test/java").list((folder, name) -> name.endsWith("Test.java"));
        Checks.dueTrue("there are tests", files != null);
        Set<String> present = new TreeSet<>(Arrays.asList(files == null ? new String[0] : files));
        Checks.dueTrue("README.md names the tests " + present + ", not " + named, named.equals(present));
        Checks.dueTrue("README.md names .ci/run", readme.contains("\n    .ci/run\n"));
        Checks.dueTrue(".ci/run can be run", new File(".ci/run").canExecute());
    }

    private static void shownLines() {
        String readme = "a\n```java\n  b;  // 1\n\n  // words\n```\nc\n```sh\nd\n```\n    e\n```java\nf;\n```\n";
        List<String> lines = ReadmeProgram.shown(readme);
        Checks.dueTrue("lines of Java blocks alone, not " + lines, lines.equals(List.of("b;  // 1", "f;")));
    }

    private static void dueStatement(String line, String want) {
        String got = ReadmeProgram.statement(line);
        Checks.dueTrue(line + " becomes " + want + ", not " + got, got.equals(want));
    }

    private static void statements() {
        dueStatement("PlyPlates x = new PlyPlates();", "PlyPlates x = new PlyPlates();");
        dueStatement("x.plate();  // 3", "due(\"x.plate()\", x.plate(), 3L);");
        dueStatement("x.plate();  // -3: words; more: words", "due(\"x.plate()\", x.plate(), -3L);");
        dueStatement("x.last(); // NONE: words", "due(\"x.last()\", x.last(), PlyPlates.NONE);");
        dueStatement("int a = x.f(1, 2);  // 7: words", "int a = x.f(1, 2); due(\"x.f(1, 2)\", a, 7L);");
        dueStatement("long a = x.f();  // NO", "long a = x.f(); due(\"x.f()\", a, PlyPlates.NO);");
    }

    private static boolean isRefused(String line) {
        try {
            ReadmeProgram.statement(line);
            return false;
        } catch (IllegalArgumentException e) {
            return true;
        }
    }

    private static void refusedStatements() {
        String[] lines = {
            "x.plate();", "int a = x.plate();", "x.plate();  // words", "x.plate();  // 3 words", "x.plate();  // : 3",
            "x.plate()  // 3", "if (x.plate() == 0) {", "int a;", "x.plate(); x.plate();  // 1", "x.plate();  // 3:words",
        };
        for (String line : lines) {
            Checks.dueTrue("refused: " + line, isRefused(line));
        }
    }
}
