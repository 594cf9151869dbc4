import java.util.Random;

/** Runs of random calls, the class held against the model: ordinary arguments, edges and wrong ones. */
public final class ModelTest {
    private static final int RUNS = 1500;
    private static final int CALLS = 150;
    private static final int METHODS = 28;
    private static final int FEWEST = 24;
    private static final int[] WILD = {Integer.MIN_VALUE, Integer.MIN_VALUE + 9, -1000, Integer.MAX_VALUE, 1 << 30, 46341};

    private final Random random;
    private final PlyPlates plates = new PlyPlates();
    private final Model model = new Model();
    private final int run;
    /** How coarse the numbers of a run are: few different ones make equal shares and whole edges. */
    private final boolean isCoarse;
    private final boolean isGreat;

    private ModelTest(int run) {
        this.run = run;
        random = new Random(7919L * run + 1);
        isCoarse = run % 3 == 0;
        isGreat = run % 3 == 1;
    }

    public static void main(String[] args) {
        for (int run = 0; run < RUNS && !Checks.isAnyWrong(); run++) {
            new ModelTest(run).go();
        }
        Checks.end();
    }

    private void go() {
        setUp();
        for (int i = 0; i < CALLS && !Checks.isAnyWrong(); i++) {
            int method = random.nextInt(METHODS);
            if (method == FEWEST && random.nextInt(5) != 0) {
                method = random.nextInt(METHODS - 1);
            }
            call(method);
        }
    }

    private void setUp() {
        for (int i = random.nextInt(4); i > 0; i--) {
            call(0);
        }
        for (int i = random.nextInt(6); i > 0; i--) {
            call(1);
        }
        for (int i = random.nextInt(4); i > 0; i--) {
            call(3);
        }
        for (int i = random.nextInt(30); i > 0; i--) {
            call(4);
        }
    }

    /** A number from least to most; now and then an edge, a number past it, or a wild one. */
    private int pick(int least, int most) {
        int luck = random.nextInt(60);
        if (luck == 0) {
            return least - 1;
        }
        if (luck == 1) {
            return most + 1;
        }
        if (luck == 2) {
            return WILD[random.nextInt(WILD.length)];
        }
        if (luck < 6) {
            return random.nextBoolean() ? least : most;
        }
        return least + random.nextInt(most - least + 1);
    }

    private int stiffness(int least) {
        if (isCoarse) {
            return pick(least, 3);
        }
        return isGreat ? pick(190, 200) : pick(least, 200);
    }

    private int pull() {
        if (isCoarse) {
            return random.nextInt(3) == 0 ? 0 : 10 * pick(-2, 2);
        }
        return isGreat ? (random.nextBoolean() ? 1 : -1) * pick(97, 100) : pick(-100, 100);
    }

    private int strengthValue() {
        if (isCoarse) {
            return 10 * pick(1, 4);
        }
        return isGreat ? (random.nextBoolean() ? pick(1, 3) : pick(998, 1000)) : pick(1, 1000);
    }

    private void due(String call, long got, long want) {
        Checks.due("run " + run + ": " + call, got, want);
    }

    private static String text(String name, int... args) {
        StringBuilder b = new StringBuilder(name).append('(');
        for (int i = 0; i < args.length; i++) {
            b.append(i == 0 ? "" : ", ").append(args[i]);
        }
        return b.append(')').toString();
    }

    private int plateNumber() {
        return pick(0, Math.max(0, model.count(1) - 1));
    }

    private int layerNumber(int plate) {
        return pick(0, Math.max(0, model.count(10 + (plate & 3)) - 1));
    }

    private void call(int method) {
        if (method < 10) {
            callMaking(method);
        } else if (method < 20) {
            callAsking(method);
        } else {
            callSearching(method);
        }
    }

    private void callMaking(int method) {
        int p = plateNumber();
        int s = pick(0, Math.max(0, model.count(0) - 1));
        switch (method) {
            case 0 -> {
                int a = stiffness(1);
                int b = stiffness(1);
                int c = isGreat ? pick(180, 200) : isCoarse ? pick(0, 2) : pick(0, 200);
                int d = stiffness(1);
                due(text("stuff", a, b, c, d), plates.stuff(a, b, c, d), model.stuff(a, b, c, d));
            }
            case 1 -> {
                int k = pick(0, 4);
                int v = strengthValue();
                due(text("strength", s, k, v), plates.strength(s, k, v), model.strength(s, k, v));
            }
            case 2 -> {
                int a = pick(-20, 20);
                int b = pick(-20, 20);
                due(text("growth", s, a, b), plates.growth(s, a, b), model.growth(s, a, b));
            }
            case 3 -> due("plate()", plates.plate(), model.plate());
            case 4, 5 -> {
                int way = pick(0, 3);
                int thick = isCoarse ? 1 : isGreat ? pick(3, 3) : pick(1, 3);
                due(text("lay", p, s, way, thick), plates.lay(p, s, way, thick), model.lay(p, s, way, thick));
            }
            case 6 -> due(text("peel", p), plates.peel(p), model.peel(p));
            case 7 -> {
                int l = layerNumber(p);
                int how = pick(0, 2);
                due(text("hurt", p, l, how), plates.hurt(p, l, how), model.hurt(p, l, how));
            }
            default -> {
                int l = layerNumber(p);
                int what = pick(0, 9);
                due(text("layer", p, l, what), plates.layer(p, l, what), model.layer(p, l, what));
            }
        }
    }

    private void callAsking(int method) {
        int p = plateNumber();
        int x = pull();
        int y = pull();
        int s = pull();
        int what = pick(0, 2);
        int part = pick(0, 1);
        switch (method) {
            case 10 -> {
                int number = pick(0, 5);
                due(text("table", p, what, number), plates.table(p, what, number), model.table(p, what, number));
            }
            case 11 -> due(text("tied", p), plates.tied(p), model.tied(p));
            case 12 -> due(text("even", p), plates.even(p), model.even(p));
            case 13 -> due(text("determinant", p), plates.determinant(p), model.determinant(p));
            case 14 -> due(text("stretch", p, x, y, s, what, part), plates.stretch(p, x, y, s, what, part),
                model.stretch(p, x, y, s, what, part));
            case 15 -> {
                int w = pick(-100, 100);
                due(text("warm", p, w, what, part), plates.warm(p, w, what, part), model.warm(p, w, what, part));
            }
            case 16 -> due(text("holds", p, x, y, s), plates.holds(p, x, y, s), model.holds(p, x, y, s));
            case 17 -> due(text("first", p, x, y, s), plates.first(p, x, y, s), model.first(p, x, y, s));
            case 18 -> due(text("factor", p, x, y, s, part), plates.factor(p, x, y, s, part),
                model.factor(p, x, y, s, part));
            default -> callBreak(p, x, y, s);
        }
    }

    private void callBreak(int p, int x, int y, int s) {
        int steps = model.breaks(p, x, y, s);
        due(text("breaks", p, x, y, s), plates.breaks(p, x, y, s), steps);
        for (int i = -1; i <= steps; i++) {
            for (int what = 0; what < 3; what++) {
                due(text("step", i, what), plates.step(i, what), model.step(i, what));
            }
        }
        due("last()", plates.last(), model.last());
    }

    private void callSearching(int method) {
        int p = plateNumber();
        int other = plateNumber();
        switch (method) {
            case 20 -> {
                int i = pick(0, 5);
                int what = pick(0, 2);
                due(text("step", i, what), plates.step(i, what), model.step(i, what));
                due("last()", plates.last(), model.last());
            }
            case 21 -> {
                int most = random.nextBoolean() ? pick(1, 4) : pick(1, 12);
                int step = pick(0, 1);
                int each = random.nextInt(3) == 0 ? pick(0, 3) : pick(0, 1);
                due(text("rules", most, step, each), plates.rules(most, step, each), model.rules(most, step, each));
            }
            case 22 -> due(text("rule", p), plates.rule(p), model.rule(p));
            case 23 -> {
                if (random.nextInt(8) == 0) {
                    due("unload()", plates.unload(), model.unload());
                }
                int x = pull();
                int y = pull();
                int s = pull();
                due(text("load", x, y, s), plates.load(x, y, s), model.load(x, y, s));
            }
            case FEWEST -> {
                int s = pick(0, Math.max(0, model.count(0) - 1));
                due(text("fewest", p, s), plates.fewest(p, s), model.fewest(p, s));
                for (int i = 0; i < 12; i++) {
                    due(text("layer", p, i, 1), plates.layer(p, i, 1), model.layer(p, i, 1));
                }
            }
            case 25 -> due(text("comes", p, other), plates.comes(p, other), model.comes(p, other));
            case 26 -> due(text("drop", p, other), plates.drop(p, other), model.drop(p, other));
            default -> {
                int what = random.nextInt(3) == 0 ? pick(0, 30) : (random.nextBoolean() ? 10 : 20) + p;
                due(text("count", what), plates.count(what), model.count(what));
            }
        }
    }
}
