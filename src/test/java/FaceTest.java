import java.io.IOException;
import java.lang.reflect.Constructor;
import java.lang.reflect.Field;
import java.lang.reflect.Method;
import java.lang.reflect.Modifier;
import java.nio.file.Files;
import java.nio.file.Path;
import java.util.Set;
import java.util.TreeSet;
import java.util.regex.Matcher;
import java.util.regex.Pattern;

/** The face is the document's, no more and no less, and the source keeps to those rules of LANGUAGE.md that can be read off. */
public final class FaceTest {
    private static final String[] FACE = {
        "int stuff(int,int,int,int)", "int strength(int,int,int)", "int growth(int,int,int)", "int plate()",
        "int lay(int,int,int,int)", "int peel(int)", "int hurt(int,int,int)", "int layer(int,int,int)",
        "long table(int,int,int)", "int tied(int)", "int even(int)", "long determinant(int)",
        "long stretch(int,int,int,int,int,int)", "long warm(int,int,int,int)", "int holds(int,int,int,int)",
        "int first(int,int,int,int)", "long factor(int,int,int,int,int)", "int breaks(int,int,int,int)",
        "long step(int,int)", "int last()", "int rules(int,int,int)", "int rule(int)", "int load(int,int,int)",
        "int unload()", "int fewest(int,int)", "int comes(int,int)", "int drop(int,int)", "int count(int)",
    };
    private static final String[] FORBIDDEN = {
        "\\bthrow\\b", "\\btry\\b", "\\bcatch\\b", "\\bsynchronized\\b", "\\bassert\\b", "->", "::", "Exact\\b",
        "static\\s*\\{", "\\bpackage\\b", "\\bprotected\\b", "\\bSystem\\.(?!arraycopy)", "\\bRandom\\b", "\\bThread\\b",
        "\\bObject\\b", "\\btoString\\b", "\\bhashCode\\b", "\\bvar\\b", "import (?!java\\.util\\.Arrays;)",
    };

    /** From a head to the brace that stands as far in as it does. */
    private static final Pattern METHOD = Pattern.compile("(?ms)^( {4}| {8})(?! |return)[\\w\\[\\] ]+\\w\\([^;{]*\\) \\{$.*?^\\1\\}$");

    private FaceTest() {
    }

    public static void main(String[] args) throws IOException {
        methods();
        fieldsAndConstructors();
        nested();
        source();
        Checks.end();
    }

    private static String signature(Method m) {
        StringBuilder b = new StringBuilder(m.getReturnType().getSimpleName()).append(' ').append(m.getName()).append('(');
        for (Class<?> p : m.getParameterTypes()) {
            b.append(b.charAt(b.length() - 1) == '(' ? "" : ",").append(p.getSimpleName());
        }
        return b.append(')').toString();
    }

    private static void methods() {
        Set<String> open = new TreeSet<>();
        Set<String> openNames = new TreeSet<>();
        for (Method m : PlyPlates.class.getDeclaredMethods()) {
            if (!m.isSynthetic() && !Modifier.isPrivate(m.getModifiers())) {
                Checks.dueTrue(m + " is public, not static", (m.getModifiers() & ~Modifier.FINAL) == Modifier.PUBLIC);
                open.add(signature(m));
                openNames.add(m.getName());
            }
        }
        Checks.dueTrue("the methods are the document's, not " + open, open.equals(new TreeSet<>(Set.of(FACE))));
        for (Method m : PlyPlates.class.getDeclaredMethods()) {
            boolean isHidden = Modifier.isPrivate(m.getModifiers());
            Checks.dueTrue(m + " has a name of its own", !isHidden || !openNames.contains(m.getName()));
        }
    }

    private static void fieldsAndConstructors() {
        Set<String> constants = new TreeSet<>();
        for (Field f : PlyPlates.class.getDeclaredFields()) {
            if (!Modifier.isPrivate(f.getModifiers())) {
                constants.add(Modifier.toString(f.getModifiers()) + " " + f.getType() + " " + f.getName());
            }
        }
        String open = "public static final ";
        Checks.dueTrue("the constants are the document's, not " + constants, constants.equals(new TreeSet<>(Set.of(
            open + "int NONE", open + "int BAD", open + "int STATE", open + "int FULL", open + "long NO"))));
        Constructor<?>[] made = PlyPlates.class.getDeclaredConstructors();
        Checks.due("constructors", made.length, 1);
        Checks.due("their arguments", made[0].getParameterCount(), 0);
        Checks.dueTrue("the constructor is public", Modifier.isPublic(made[0].getModifiers()));
        int kind = PlyPlates.class.getModifiers();
        Checks.dueTrue("the class is public and final", Modifier.isPublic(kind) && Modifier.isFinal(kind));
    }

    private static void nested() {
        Class<?>[] inside = PlyPlates.class.getDeclaredClasses();
        Checks.dueTrue("at most twelve classes", inside.length <= 12);
        for (Class<?> c : inside) {
            Checks.dueTrue(c + " is static", Modifier.isStatic(c.getModifiers()));
            Checks.dueTrue(c + " is hidden", !Modifier.isPublic(c.getModifiers()));
            Checks.dueTrue(c + " has at most twenty fields", c.getDeclaredFields().length <= 20);
            for (Field f : c.getDeclaredFields()) {
                boolean isStatic = Modifier.isStatic(f.getModifiers());
                Checks.dueTrue(f + " is final if static", !isStatic || Modifier.isFinal(f.getModifiers()));
            }
            for (Method m : c.getDeclaredMethods()) {
                Checks.dueTrue(m + " takes at most seven", m.getParameterCount() <= 7);
            }
        }
    }

    private static void source() throws IOException {
        String text = Files.readString(Path.of("src/main/java/PlyPlates.java"));
        String code = text.replaceAll("(?s)/\\*.*?\\*/", "").replaceAll("//[^\n]*", "").replaceAll("\"[^\"\n]*\"", "\"\"");
        for (String pattern : FORBIDDEN) {
            Checks.dueTrue("no " + pattern, !Pattern.compile(pattern).matcher(code).find());
        }
        for (String line : text.split("\n")) {
            Checks.dueTrue("a line of at most 120: " + line, line.length() <= 120);
        }
        Matcher method = METHOD.matcher(text);
        while (method.find()) {
            String first = method.group().strip().lines().findFirst().orElse("");
            Checks.dueTrue(first + " has at most sixty lines", method.group().lines().count() <= 60);
        }
    }
}
