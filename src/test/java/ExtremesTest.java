/**
 * The least and the greatest of all numbers at once, held against the model: stuffs of the least and the greatest
 * stiffness, plates of one thin layer and of twelve thick ones, the least and the greatest strengths, growths, pulls and
 * warmth. What would not fit into a long shows here.
 */
public final class ExtremesTest {
    private static final int[][] LOADS = {
        {100, 100, 100}, {-100, 100, -100}, {100, 0, 0}, {0, -100, 0}, {0, 0, 100}, {1, -1, 0}, {-100, -100, 99}, {0, 0, 0},
    };
    private static final int[][] LAYS = {
        {0}, {1}, {2}, {3}, {0, 1}, {2, 3}, {0, 2}, {1, 3, 2}, {0, 0, 0, 0, 0, 0, 0, 0, 0, 0, 0, 0},
        {2, 2, 2, 2, 2, 2, 2, 2, 2, 2, 2, 2}, {2, 3, 2, 3, 2, 3, 2, 3, 2, 3, 2, 3}, {0, 1, 2, 3, 0, 1, 2, 3, 0, 1, 2, 3},
        {0, 0, 0, 0, 0, 0, 0, 0, 0, 0, 0, 2}, {3, 3, 3, 3, 3, 3, 3, 3, 3, 3, 3, 1},
    };

    private final PlyPlates plates = new PlyPlates();
    private final Model model = new Model();
    private final String name;

    private ExtremesTest(String name) {
        this.name = name;
    }

    public static void main(String[] args) {
        int[] ends = {1, 200};
        for (int q11 : ends) {
            for (int q22 : ends) {
                for (int q66 : ends) {
                    for (int q12 : new int[] {0, greatestQ12(q11, q22)}) {
                        ofStuff(q11, q22, q12, q66);
                    }
                }
            }
        }
        Checks.end();
    }

    private static int greatestQ12(int q11, int q22) {
        int q12 = 0;
        while ((q12 + 1) * (q12 + 1) < q11 * q22) {
            q12++;
        }
        return q12;
    }

    private static void ofStuff(int q11, int q22, int q12, int q66) {
        for (int i = 0; i < LAYS.length; i++) {
            for (int thick = 1; thick <= 3; thick += 2) {
                for (int strengths = 0; strengths < 3; strengths++) {
                    String stuff = "stuff " + q11 + " " + q22 + " " + q12 + " " + q66;
                    ExtremesTest t = new ExtremesTest(stuff + ", lay " + i + ", " + thick + ", " + strengths + ": ");
                    t.make(new int[] {q11, q22, q12, q66}, LAYS[i], thick, strengths);
                    t.ask(strengths == 0);
                    t.breakAll();
                }
            }
        }
    }

    private void due(String call, long got, long want) {
        Checks.due(name + call, got, want);
    }

    private void make(int[] q, int[] ways, int thick, int strengths) {
        due("stuff", plates.stuff(q[0], q[1], q[2], q[3]), model.stuff(q[0], q[1], q[2], q[3]));
        int[] of = {1, 1000, 1};
        for (int kind = 0; kind < 5; kind++) {
            int v = strengths == 2 && kind % 2 == 0 ? 1000 : of[strengths];
            due("strength", plates.strength(0, kind, v), model.strength(0, kind, v));
        }
        int across = strengths == 1 ? -20 : 20;
        due("growth", plates.growth(0, 20, across), model.growth(0, 20, across));
        due("plate", plates.plate(), model.plate());
        for (int way : ways) {
            due("lay", plates.lay(0, 0, way, thick), model.lay(0, 0, way, thick));
        }
    }

    private void ask(boolean isTableAsked) {
        due("determinant", plates.determinant(0), model.determinant(0));
        due("tied", plates.tied(0), model.tied(0));
        for (int i = 0; isTableAsked && i < 18; i++) {
            due("table", plates.table(0, i / 6, i % 6), model.table(0, i / 6, i % 6));
        }
        for (int i = 0; i < 6; i++) {
            due("warm", plates.warm(0, 100, i / 2, i % 2), model.warm(0, 100, i / 2, i % 2));
            due("cold", plates.warm(0, -100, i / 2, i % 2), model.warm(0, -100, i / 2, i % 2));
        }
        for (int[] n : LOADS) {
            for (int i = 0; isTableAsked && i < 6; i++) {
                due("stretch", plates.stretch(0, n[0], n[1], n[2], i / 2, i % 2),
                    model.stretch(0, n[0], n[1], n[2], i / 2, i % 2));
            }
            due("holds", plates.holds(0, n[0], n[1], n[2]), model.holds(0, n[0], n[1], n[2]));
            due("first", plates.first(0, n[0], n[1], n[2]), model.first(0, n[0], n[1], n[2]));
            due("factor", plates.factor(0, n[0], n[1], n[2], 0), model.factor(0, n[0], n[1], n[2], 0));
            due("factor below", plates.factor(0, n[0], n[1], n[2], 1), model.factor(0, n[0], n[1], n[2], 1));
        }
    }

    private void breakAll() {
        for (int k = 0; k < 2; k++) {
            int[] n = LOADS[k];
            int steps = model.breaks(0, n[0], n[1], n[2]);
            due("breaks", plates.breaks(0, n[0], n[1], n[2]), steps);
            for (int i = 0; i <= steps; i++) {
                for (int what = 0; what < 3; what++) {
                    due("step", plates.step(i, what), model.step(i, what));
                }
            }
            due("last", plates.last(), model.last());
        }
    }
}
