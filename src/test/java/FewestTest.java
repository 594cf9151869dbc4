import java.util.Random;

/** Searches and lays that come of others, held against the model, with numbers that make all sizes of lays come up. */
public final class FewestTest {
    private static final int SEARCHES = 400;
    private static final int LAYS = 3000;
    private static final int[] found = new int[11];

    private FewestTest() {
    }

    public static void main(String[] args) {
        Random random = new Random(20261116);
        for (int i = 0; i < SEARCHES && !Checks.isAnyWrong(); i++) {
            search(random, i);
        }
        for (int layers = 0; layers <= 10; layers += 2) {
            Checks.dueTrue("some search ends with " + layers + " layers", found[layers] > 0);
        }
        for (int i = 0; i < LAYS && !Checks.isAnyWrong(); i++) {
            dropSome(random, i);
        }
        Checks.end();
    }

    private static void search(Random random, int run) {
        PlyPlates x = new PlyPlates();
        Model m = new Model();
        int q11 = 20 + random.nextInt(181);
        int q22 = 1 + random.nextInt(20);
        int q12 = random.nextInt(4);
        int q66 = 1 + random.nextInt(20);
        String name = "run " + run + ": ";
        Checks.due(name + "stuff", x.stuff(q11, q22, q12, q66), m.stuff(q11, q22, q12, q66));
        for (int kind = 0; kind < 5; kind++) {
            int v = kind < 2 ? 15 + random.nextInt(60) : 2 + random.nextInt(15);
            Checks.due(name + "strength", x.strength(0, kind, v), m.strength(0, kind, v));
        }
        int run1 = 2 + random.nextInt(4);
        int step = random.nextInt(2);
        int each = random.nextInt(4) == 0 ? 1 : 0;
        Checks.due(name + "rules", x.rules(run1, step, each), m.rules(run1, step, each));
        int most = 10 + random.nextInt(91);
        for (int i = random.nextInt(4); i >= 0; i--) {
            int nx = random.nextInt(2 * most + 1) - most;
            int ny = random.nextInt(most + 1) - most / 2;
            int ns = random.nextInt(most + 1) - most / 2;
            Checks.due(name + "load", x.load(nx, ny, ns), m.load(nx, ny, ns));
        }
        Checks.due(name + "plate", x.plate(), m.plate());
        int want = m.fewest(0, 0);
        found[Math.max(want, 0)]++;
        Checks.due(name + "fewest", x.fewest(0, 0), want);
        for (int i = 0; i < 10; i++) {
            Checks.due(name + "way " + i, x.layer(0, i, 1), m.layer(0, i, 1));
        }
        Checks.due(name + "even", x.even(0), 1);
    }

    /** One plate of few kinds of layers, another of some of them, now and then with one changed. */
    private static void dropSome(Random random, int run) {
        PlyPlates x = new PlyPlates();
        Model m = new Model();
        x.stuff(8, 2, 0, 1);
        m.stuff(8, 2, 0, 1);
        for (int i = 0; i < 2; i++) {
            x.plate();
            m.plate();
        }
        int layers = random.nextInt(13);
        for (int i = 0; i < layers; i++) {
            int way = random.nextInt(2);
            int thick = 1 + random.nextInt(2);
            x.lay(0, 0, way, thick);
            m.lay(0, 0, way, thick);
            if (random.nextInt(3) > 0) {
                int other = random.nextInt(12) == 0 ? 1 - way : way;
                x.lay(1, 0, other, thick);
                m.lay(1, 0, other, thick);
            }
        }
        Checks.due("lays " + run + ": comes", x.comes(0, 1), m.comes(0, 1));
        Checks.due("lays " + run + ": drop", x.drop(0, 1), m.drop(0, 1));
        Checks.due("lays " + run + ": comes back", x.comes(1, 0), m.comes(1, 0));
        Checks.due("lays " + run + ": drop back", x.drop(1, 0), m.drop(1, 0));
    }
}
