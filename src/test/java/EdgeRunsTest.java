import java.lang.reflect.Method;
import java.lang.reflect.Modifier;
import java.util.ArrayList;
import java.util.Comparator;
import java.util.List;
import java.util.Random;

/**
 * Runs of calls of the whole face whose arguments are all edges: the least and the greatest allowed numbers, those
 * beside them, int's own least and greatest. Each answer is held against the model's, and nothing may be thrown.
 */
public final class EdgeRunsTest {
    private static final int RUNS = 600;
    private static final int CALLS = 400;
    private static final int[] SMALL = {0, 0, 0, 1, 1, 1, 2, 2, 3, 3, 4, 5, 6, 9, 10, 11, 12, 13, 20, 21, 23, 24, -1, -2};
    private static final int[] GREAT = {
        100, -100, 101, -101, 99, -99, 20, -20, -21, 200, 201, 199, 1000, 1001, 256, 65536, 46341, 1 << 30,
        Integer.MIN_VALUE, Integer.MAX_VALUE, Integer.MIN_VALUE + 1, Integer.MAX_VALUE - 1,
    };

    private EdgeRunsTest() {
    }

    public static void main(String[] args) throws ReflectiveOperationException {
        List<Method> face = face();
        List<Method> model = new ArrayList<>();
        for (Method m : face) {
            model.add(Model.class.getDeclaredMethod(m.getName(), m.getParameterTypes()));
        }
        Checks.due("methods of the face", face.size(), 28);
        int[][] answered = new int[face.size()][2];
        Random random = new Random(29);
        for (int run = 0; run < RUNS && !Checks.isAnyWrong(); run++) {
            run(random, face, model, answered);
        }
        for (int i = 0; i < face.size(); i++) {
            Checks.dueTrue(face.get(i).getName() + " is called often", answered[i][0] + answered[i][1] > RUNS);
            Checks.dueTrue(face.get(i).getName() + " is not only refused", answered[i][1] > 0);
        }
        Checks.end();
    }

    private static List<Method> face() {
        List<Method> found = new ArrayList<>();
        for (Method m : PlyPlates.class.getDeclaredMethods()) {
            if (Modifier.isPublic(m.getModifiers())) {
                found.add(m);
            }
        }
        found.sort(Comparator.comparing(Method::getName));
        return found;
    }

    private static void run(Random random, List<Method> face, List<Method> model, int[][] answered)
        throws ReflectiveOperationException {
        PlyPlates x = new PlyPlates();
        Model m = new Model();
        start(random, x, m);
        for (int i = 0; i < CALLS && !Checks.isAnyWrong(); i++) {
            int which = random.nextInt(face.size());
            Method call = face.get(which);
            // The model's search is slow.
            if (call.getName().equals("fewest") && random.nextInt(4) != 0) {
                continue;
            }
            Object[] args = new Object[call.getParameterCount()];
            for (int k = 0; k < args.length; k++) {
                args[k] = number(random);
            }
            long got = ((Number) call.invoke(x, args)).longValue();
            long want = ((Number) model.get(which).invoke(m, args)).longValue();
            answered[which][got == PlyPlates.NO || got < 0 && got > -5 ? 0 : 1]++;
            Checks.due(call.getName() + List.of(args), got, want);
        }
    }

    /** Something to ask of, from nothing at all to a full object. */
    private static void start(Random random, PlyPlates x, Model m) {
        int[][] stuffs = {{1, 1, 0, 1}, {200, 200, 199, 200}, {200, 1, 14, 1}, {140, 10, 3, 5}};
        for (int i = random.nextInt(4); i > 0; i--) {
            int[] q = stuffs[random.nextInt(stuffs.length)];
            Checks.due("stuff", x.stuff(q[0], q[1], q[2], q[3]), m.stuff(q[0], q[1], q[2], q[3]));
        }
        for (int i = random.nextInt(5); i > 0; i--) {
            Checks.due("plate", x.plate(), m.plate());
        }
        for (int i = random.nextInt(50); i > 0; i--) {
            int p = random.nextInt(4);
            int s = random.nextInt(3);
            int way = random.nextInt(4);
            int thick = 1 + random.nextInt(3);
            Checks.due("lay", x.lay(p, s, way, thick), m.lay(p, s, way, thick));
        }
    }

    private static int number(Random random) {
        return random.nextInt(5) != 0 ? SMALL[random.nextInt(SMALL.length)] : GREAT[random.nextInt(GREAT.length)];
    }
}
