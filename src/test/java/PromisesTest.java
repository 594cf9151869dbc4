/** Every promise by hand: ordinary arguments, the edges that the document names, and wrong arguments. */
public final class PromisesTest {
    private static final int NONE = PlyPlates.NONE;
    private static final int BAD = PlyPlates.BAD;
    private static final int STATE = PlyPlates.STATE;
    private static final int FULL = PlyPlates.FULL;
    private static final long NO = PlyPlates.NO;
    private static final int[] OUTSIDE_LOAD = {-101, 101, Integer.MIN_VALUE, Integer.MAX_VALUE};
    private static final int[] NO_PLATE = {-1, 1, 4, Integer.MIN_VALUE, Integer.MAX_VALUE};

    private PromisesTest() {
    }

    public static void main(String[] args) {
        constants();
        newObject();
        stuff();
        strength();
        growth();
        plate();
        lay();
        peel();
        hurt();
        layer();
        layerBroken();
        table();
        tied();
        even();
        determinant();
        stretch();
        stretchRefused();
        warm();
        warmHalves();
        warmBroken();
        warmRefused();
        holds();
        first();
        firstTies();
        firstRefused();
        factor();
        breaks();
        breaksKeepsPlate();
        breaksRefused();
        last();
        rules();
        ruleRun();
        ruleStepAndEach();
        load();
        unload();
        fewestByRules();
        fewestByCases();
        fewestRefused();
        comes();
        drop();
        count();
        Checks.end();
    }

    private static void due(String call, long got, long want) {
        Checks.due(call, got, want);
    }

    /** A stuff with numbers that are easy to reckon by hand, and plates of one thickness of it, laid these ways. */
    private static PlyPlates plain(int... ways) {
        PlyPlates x = new PlyPlates();
        x.stuff(8, 2, 0, 1);
        x.plate();
        for (int way : ways) {
            x.lay(0, 0, way, 1);
        }
        return x;
    }

    private static void constants() {
        due("NONE", NONE, -1);
        due("BAD", BAD, -2);
        due("STATE", STATE, -3);
        due("FULL", FULL, -4);
        due("NO", NO, Long.MIN_VALUE);
    }

    private static void newObject() {
        PlyPlates x = new PlyPlates();
        due("new count(0)", x.count(0), 0);
        due("new count(1)", x.count(1), 0);
        due("new count(2)", x.count(2), 0);
        due("new count(10)", x.count(10), NONE);
        due("new count(20)", x.count(20), NONE);
        due("new last()", x.last(), NONE);
        due("new step(0, 0)", x.step(0, 0), NO);
        due("new unload()", x.unload(), 0);
        due("new even(0)", x.even(0), NONE);
        due("new strength(0, 0, 5)", x.strength(0, 0, 5), NONE);
    }

    private static void stuff() {
        PlyPlates x = new PlyPlates();
        int[][] wrong = {
            {0, 5, 0, 1}, {201, 5, 0, 1}, {5, 0, 0, 1}, {5, 201, 0, 1}, {5, 5, -1, 1}, {5, 5, 0, 0}, {5, 5, 0, 201},
            {10, 10, 10, 1}, {4, 9, 6, 1}, {200, 200, 200, 1}, {200, 200, 201, 1}, {1, 1, 65536, 1},
            {Integer.MIN_VALUE, 5, 0, 1}, {5, 5, Integer.MIN_VALUE, 1}, {5, 5, 0, Integer.MAX_VALUE},
        };
        for (int[] q : wrong) {
            due("stuff BAD " + q[0] + " " + q[1] + " " + q[2] + " " + q[3], x.stuff(q[0], q[1], q[2], q[3]), BAD);
        }
        due("stuff of none", x.count(0), 0);
        due("stuff(1, 1, 0, 1)", x.stuff(1, 1, 0, 1), 0);
        due("stuff(200, 200, 199, 200)", x.stuff(200, 200, 199, 200), 1);
        due("stuff(4, 9, 5, 7)", x.stuff(4, 9, 5, 7), 2);
        due("stuff FULL", x.stuff(4, 9, 5, 7), FULL);
        due("stuff BAD before FULL", x.stuff(4, 9, 6, 7), BAD);
        due("stuff count", x.count(0), 3);
        for (int kind = 0; kind < 5; kind++) {
            due("strength at first " + kind, x.strength(2, kind, 50), 100);
        }
        x.plate();
        x.lay(0, 2, 2, 1);
        due("no growth at first", x.warm(0, 100, 0, 0), 0);
        due("no growth at first, below", x.warm(0, 100, 0, 1), 1);
        due("stuff's Q11", x.layer(0, 0, 7), 4 + 9 - 10);
    }

    private static void strength() {
        PlyPlates x = plain(0);
        due("strength 1", x.strength(0, 0, 1), 100);
        due("strength 1000", x.strength(0, 0, 1000), 1);
        due("strength again", x.strength(0, 0, 7), 1000);
        due("strength of another kind", x.strength(0, 4, 8), 100);
        due("strength NONE under", x.strength(-1, 0, 5), NONE);
        due("strength NONE over", x.strength(1, 0, 5), NONE);
        due("strength NONE before BAD", x.strength(1, 9, 0), NONE);
        due("strength kind under", x.strength(0, -1, 5), BAD);
        due("strength kind over", x.strength(0, 5, 5), BAD);
        due("strength 0", x.strength(0, 0, 0), BAD);
        due("strength 1001", x.strength(0, 0, 1001), BAD);
        due("strength unchanged", x.strength(0, 0, 7), 7);
        due("strength in use", x.factor(0, 8, 0, 0, 0), 7);
        due("strength in use, below", x.factor(0, 8, 0, 0, 1), 8);
        x.stuff(1, 1, 0, 1);
        due("strength of another stuff", x.strength(1, 0, 3), 100);
    }

    private static void growth() {
        PlyPlates x = plain(0);
        due("growth", x.growth(0, -20, 20), 0);
        due("growth NONE", x.growth(1, 1, 1), NONE);
        due("growth NONE before BAD", x.growth(-1, 21, 1), NONE);
        due("growth along under", x.growth(0, -21, 0), BAD);
        due("growth along over", x.growth(0, 21, 0), BAD);
        due("growth across under", x.growth(0, 0, -21), BAD);
        due("growth across over", x.growth(0, 0, 21), BAD);
        due("growth along stays", x.warm(0, 1, 0, 0), -20);
        due("growth across stays", x.warm(0, 1, 1, 0), 20);
        due("growth the other way", x.growth(0, 20, -20), 0);
        due("growth along anew", x.warm(0, 1, 0, 0), 20);
        due("growth across anew", x.warm(0, 1, 1, 0), -20);
    }

    private static void plate() {
        PlyPlates x = new PlyPlates();
        for (int i = 0; i < 4; i++) {
            due("plate " + i, x.plate(), i);
            due("plate is empty " + i, x.count(10 + i), 0);
        }
        due("plate FULL", x.plate(), FULL);
        due("plates", x.count(1), 4);
    }

    private static void lay() {
        PlyPlates x = plain();
        for (int i = 0; i < 12; i++) {
            due("lay " + i, x.lay(0, 0, i % 4, 1 + i % 3), i);
        }
        due("lay FULL", x.lay(0, 0, 0, 1), FULL);
        due("lay BAD before FULL", x.lay(0, 0, 0, 4), BAD);
        due("lay NONE before BAD", x.lay(0, 0, 4, 4), NONE);
        due("layers", x.count(10), 12);
        for (int i = 0; i < 12; i++) {
            due("laid stuff", x.layer(0, i, 0), 0);
            due("laid way", x.layer(0, i, 1), i % 4);
            due("laid thickness", x.layer(0, i, 2), 1 + i % 3);
            due("laid whole", x.layer(0, i, 3), 0);
        }
        PlyPlates y = plain();
        due("lay way under", y.lay(0, 0, -1, 1), NONE);
        due("lay way over", y.lay(0, 0, 4, 1), NONE);
        due("lay stuff under", y.lay(0, -1, 0, 1), NONE);
        due("lay stuff over", y.lay(0, 1, 0, 1), NONE);
        due("lay thin", y.lay(0, 0, 0, 0), BAD);
        due("lay thick", y.lay(0, 0, 0, 4), BAD);
        for (int p : NO_PLATE) {
            due("lay plate " + p, y.lay(p, 0, 0, 1), NONE);
        }
        due("lay changes nothing", y.count(10), 0);
    }

    private static void peel() {
        PlyPlates x = plain(0, 1, 2);
        x.hurt(0, 2, 2);
        due("peel", x.peel(0), 2);
        due("peel: the uppermost", x.layer(0, 1, 1), 1);
        due("peel: gone", x.layer(0, 2, 1), NONE);
        due("lay again", x.lay(0, 0, 3, 2), 2);
        due("a new layer is whole", x.layer(0, 2, 3), 0);
        x.peel(0);
        x.peel(0);
        due("peel the last", x.peel(0), 0);
        due("peel STATE", x.peel(0), STATE);
        for (int p : NO_PLATE) {
            due("peel plate " + p, x.peel(p), NONE);
        }
    }

    private static void hurt() {
        PlyPlates x = plain(0, 1);
        due("hurt across", x.hurt(0, 1, 1), 0);
        due("hurt all", x.hurt(0, 1, 2), 1);
        due("hurt BAD over", x.hurt(0, 1, 3), BAD);
        due("hurt BAD under", x.hurt(0, 1, -1), BAD);
        due("hurt stays", x.layer(0, 1, 3), 2);
        due("heal", x.hurt(0, 1, 0), 2);
        due("the other layer", x.layer(0, 0, 3), 0);
        due("hurt layer over", x.hurt(0, 2, 1), NONE);
        due("hurt layer under", x.hurt(0, -1, 1), NONE);
        due("hurt NONE before BAD", x.hurt(0, 2, 3), NONE);
        for (int p : NO_PLATE) {
            due("hurt plate " + p, x.hurt(p, 0, 1), NONE);
        }
    }

    private static void dueTurned(PlyPlates x, int layer, int... turned) {
        for (int i = 0; i < 6; i++) {
            due("layer(0, " + layer + ", " + (4 + i) + ")", x.layer(0, layer, 4 + i), turned[i]);
        }
    }

    private static void layer() {
        PlyPlates x = plain();
        x.stuff(100, 30, 7, 11);
        x.lay(0, 1, 0, 2);
        x.lay(0, 1, 1, 1);
        x.lay(0, 1, 2, 3);
        x.lay(0, 1, 3, 1);
        due("layer's stuff", x.layer(0, 0, 0), 1);
        due("layer's way", x.layer(0, 3, 1), 3);
        due("layer's thickness", x.layer(0, 2, 2), 3);
        dueTurned(x, 0, 400, 120, 28, 44, 0, 0);
        dueTurned(x, 1, 120, 400, 28, 44, 0, 0);
        dueTurned(x, 2, 188, 188, 100, 116, 70, 70);
        dueTurned(x, 3, 188, 188, 100, 116, -70, -70);
        due("layer what under", x.layer(0, 0, -1), NONE);
        due("layer what over", x.layer(0, 0, 10), NONE);
        due("layer under", x.layer(0, -1, 0), NONE);
        due("layer over", x.layer(0, 4, 0), NONE);
        due("layer wild", x.layer(0, 0, Integer.MIN_VALUE), NONE);
        for (int p : NO_PLATE) {
            due("layer plate " + p, x.layer(p, 0, 0), NONE);
        }
    }

    private static void layerBroken() {
        PlyPlates x = plain();
        x.stuff(100, 30, 7, 11);
        for (int way = 0; way < 4; way++) {
            x.lay(0, 1, way, 2);
            x.hurt(0, way, 1);
        }
        dueTurned(x, 0, 400, 0, 0, 0, 0, 0);
        dueTurned(x, 1, 0, 400, 0, 0, 0, 0);
        dueTurned(x, 2, 100, 100, 100, 100, 100, 100);
        dueTurned(x, 3, 100, 100, 100, 100, -100, -100);
        for (int way = 0; way < 4; way++) {
            x.hurt(0, way, 2);
            dueTurned(x, way, 0, 0, 0, 0, 0, 0);
        }
    }

    /** 0, 2, 1 of thickness 2, 1, 3: places -6, -2, 0, 6. */
    private static PlyPlates threeLayers() {
        PlyPlates x = plain();
        x.lay(0, 0, 0, 2);
        x.lay(0, 0, 2, 1);
        x.lay(0, 0, 1, 3);
        return x;
    }

    private static void table() {
        PlyPlates x = threeLayers();
        int[][] turned = {{32, 8, 0, 4, 0, 0}, {14, 14, 6, 10, 6, 6}, {8, 32, 0, 4, 0, 0}};
        int[][] weights = {{2, 1, 3}, {4 - 36, -4, 36}, {-8 + 216, 8, 216}};
        for (int part = 0; part < 3; part++) {
            for (int what = 0; what < 6; what++) {
                long want = 0;
                for (int i = 0; i < 3; i++) {
                    want += turned[i][what] * weights[part][i];
                }
                due("table(0, " + part + ", " + what + ")", x.table(0, part, what), want);
            }
            due("table what under", x.table(0, part, -1), NO);
            due("table what over", x.table(0, part, 6), NO);
        }
        due("table part under", x.table(0, -1, 0), NO);
        due("table part over", x.table(0, 3, 0), NO);
        for (int p : NO_PLATE) {
            due("table plate " + p, x.table(p, 0, 0), NO);
        }
        x.hurt(0, 1, 2);
        due("table by what is left", x.table(0, 0, 4), 0);
        due("table of no layers", plain().table(0, 2, 3), 0);
    }

    private static void tied() {
        due("tied: nothing", plain(0, 1, 0).tied(0), 0);
        due("tied: no layers", plain().tied(0), 0);
        due("tied: a slanted one", plain(2).tied(0), 15);
        due("tied: B alone", plain(0, 1).tied(0), 16);
        due("tied: up on down", plain(2, 3).tied(0), 16);
        due("tied: D alone", plain(2, 3, 3, 2).tied(0), 12);
        due("tied: all", plain(2, 0).tied(0), 31);
        PlyPlates x = plain(2, 0, 0, 0, 0, 0, 0, 0, 2);
        x.hurt(0, 0, 2);
        x.hurt(0, 8, 2);
        due("tied by what is left", x.tied(0), 0);
        due("tied: down outside", plain(3, 2, 2, 3).tied(0), 12);
        for (int p : NO_PLATE) {
            due("tied plate " + p, x.tied(p), NONE);
        }
        tiedApart();
    }

    /** A16 and A26 are always alike, and so are D16 and D26; but A may be tied where D is not. */
    private static void tiedApart() {
        PlyPlates y = plain();
        y.stuff(27, 1, 0, 1);
        y.stuff(2, 1, 0, 1);
        // Cubes 27 - 1 = 26 twice aside, 2 inside: 1 * 52 against 26 * 2.
        y.lay(0, 2, 2, 1);
        y.lay(0, 1, 3, 1);
        y.lay(0, 2, 2, 1);
        due("D16 of 52 - 52", y.table(0, 2, 4), 0);
        due("A16 of 2 - 26", y.table(0, 0, 4), -24);
        due("tied A alone", y.tied(0), 3);
    }

    private static void even() {
        due("even of none", plain().even(0), 1);
        due("even of one", plain(2).even(0), 1);
        due("even 0 0", plain(0, 0).even(0), 1);
        due("even 0 1", plain(0, 1).even(0), 0);
        due("even 0 1 0", plain(0, 1, 0).even(0), 1);
        due("even 0 2 3 0", plain(0, 2, 3, 0).even(0), 0);
        due("even 0 2 2 0", plain(0, 2, 2, 0).even(0), 1);
        PlyPlates x = plain(0, 1, 0);
        x.hurt(0, 0, 1);
        due("even: broken below", x.even(0), 0);
        x.hurt(0, 2, 1);
        due("even: broken both", x.even(0), 1);
        x.peel(0);
        x.lay(0, 0, 0, 2);
        x.hurt(0, 2, 1);
        due("even: thickness", x.even(0), 0);
        x.peel(0);
        x.stuff(8, 2, 0, 1);
        x.lay(0, 1, 0, 1);
        x.hurt(0, 2, 1);
        due("even: stuff", x.even(0), 0);
        for (int p : NO_PLATE) {
            due("even plate " + p, x.even(p), NONE);
        }
    }

    private static void determinant() {
        due("determinant of none", plain().determinant(0), 0);
        due("determinant 0", plain(0).determinant(0), 32 * 8 * 4);
        due("determinant 0 1", plain(0, 1).determinant(0), 40 * 40 * 8);
        // Turning does not change it: 4 Q11, 4 Q22, 4 Q66.
        due("determinant 2", plain(2).determinant(0), 32 * 8 * 4);
        due("determinant 3", plain(3).determinant(0), 32 * 8 * 4);
        PlyPlates x = plain(0, 1);
        x.hurt(0, 0, 1);
        due("determinant, across", x.determinant(0), 40 * 32 * 4);
        x.hurt(0, 1, 1);
        due("determinant, both across", x.determinant(0), 0);
        for (int p : NO_PLATE) {
            due("determinant plate " + p, x.determinant(p), NO);
        }
        PlyPlates y = new PlyPlates();
        y.stuff(200, 200, 0, 200);
        y.plate();
        for (int i = 0; i < 12; i++) {
            y.lay(0, 0, 0, 3);
        }
        due("determinant, greatest", y.determinant(0), 28800L * 28800L * 28800L);
    }

    private static void dueStretch(PlyPlates x, int[] load, long... want) {
        for (int i = 0; i < 6; i++) {
            due("stretch " + load[0] + " " + load[1] + " " + load[2] + ": " + i / 2 + ", " + i % 2,
                x.stretch(0, load[0], load[1], load[2], i / 2, i % 2), want[i]);
        }
    }

    private static void stretch() {
        PlyPlates x = plain(0);
        dueStretch(x, new int[] {8, 1, -1}, 1, 1, 1, 2, -1, 1);
        dueStretch(x, new int[] {-6, 0, 100}, -3, 4, 0, 1, 100, 1);
        dueStretch(plain(1), new int[] {8, 1, -1}, 4, 1, 1, 8, -1, 1);
        // A pull along slanted fibres: ex = ey = e1 / 2, es = e1.
        dueStretch(plain(2), new int[] {4, 4, 4}, 1, 2, 1, 2, 1, 1);
        dueStretch(plain(3), new int[] {4, 4, -4}, 1, 2, 1, 2, -1, 1);
        dueStretch(plain(2), new int[] {4, 4, -4}, 2, 1, 2, 1, -4, 1);
        dueStretch(x, new int[] {0, 0, 0}, 0, 1, 0, 1, 0, 1);
        dueStretch(x, new int[] {-100, 100, -100}, -25, 2, 50, 1, -100, 1);
    }

    private static void stretchRefused() {
        PlyPlates x = plain(0);
        for (int n : OUTSIDE_LOAD) {
            due("stretch nx " + n, x.stretch(0, n, 0, 0, 0, 0), NO);
            due("stretch ny " + n, x.stretch(0, 0, n, 0, 0, 0), NO);
            due("stretch ns " + n, x.stretch(0, 0, 0, n, 0, 0), NO);
        }
        due("stretch what under", x.stretch(0, 1, 1, 1, -1, 0), NO);
        due("stretch what over", x.stretch(0, 1, 1, 1, 3, 0), NO);
        due("stretch part under", x.stretch(0, 1, 1, 1, 0, -1), NO);
        due("stretch part over", x.stretch(0, 1, 1, 1, 0, 2), NO);
        for (int p : NO_PLATE) {
            due("stretch plate " + p, x.stretch(p, 1, 1, 1, 0, 0), NO);
        }
        x.hurt(0, 0, 1);
        due("stretch determinant 0", x.stretch(0, 1, 1, 1, 0, 0), NO);
        due("stretch determinant 0, below", x.stretch(0, 0, 0, 0, 0, 1), NO);
    }

    private static void dueWarm(PlyPlates x, int w, long... want) {
        for (int i = 0; i < 6; i++) {
            due("warm " + w + ": " + i / 2 + ", " + i % 2, x.warm(0, w, i / 2, i % 2), want[i]);
        }
    }

    private static PlyPlates growing(int along, int across, int... ways) {
        PlyPlates x = plain(ways);
        x.growth(0, along, across);
        return x;
    }

    /** Alone a layer grows as its stuff would, turned by its way. */
    private static void warm() {
        dueWarm(growing(1, 3, 0), 5, 5, 1, 15, 1, 0, 1);
        dueWarm(growing(1, 3, 1), 5, 15, 1, 5, 1, 0, 1);
        dueWarm(growing(1, 3, 2), 5, 10, 1, 10, 1, -10, 1);
        dueWarm(growing(1, 3, 3), 5, 10, 1, 10, 1, 10, 1);
        dueWarm(growing(1, 3, 2), -100, -200, 1, -200, 1, 200, 1);
        dueWarm(growing(-20, 20, 0), 100, -2000, 1, 2000, 1, 0, 1);
        dueWarm(growing(1, 3, 0), 0, 0, 1, 0, 1, 0, 1);
        // Crossed: 40 ex = 4 w (8 + 6).
        dueWarm(growing(1, 3, 0, 1), 1, 7, 5, 7, 5, 0, 1);
        PlyPlates x = growing(1, 3);
        x.lay(0, 0, 0, 1);
        x.lay(0, 0, 1, 3);
        // A11 32 + 24, pulls 8 + 18; A22 8 + 96, pulls 6 + 24.
        dueWarm(x, 1, 13, 7, 15, 13, 0, 1);
    }

    private static void warmHalves() {
        PlyPlates x = new PlyPlates();
        x.stuff(3, 2, 1, 1);
        x.growth(0, 1, 0);
        x.plate();
        x.lay(0, 0, 2, 1);
        dueWarm(x, 1, 1, 2, 1, 2, 1, 1);
        x.peel(0);
        x.lay(0, 0, 3, 1);
        dueWarm(x, 1, 1, 2, 1, 2, -1, 1);
        x.growth(0, 0, 1);
        dueWarm(x, 3, 3, 2, 3, 2, 3, 1);
    }

    /** What is not left does not push. */
    private static void warmBroken() {
        PlyPlates x = growing(1, 3, 0, 0);
        x.hurt(0, 1, 2);
        dueWarm(x, 5, 5, 1, 15, 1, 0, 1);
        x.hurt(0, 1, 1);
        dueWarm(x, 5, 5, 1, 15, 1, 0, 1);
    }

    private static void warmRefused() {
        PlyPlates x = growing(1, 3, 0);
        for (int w : OUTSIDE_LOAD) {
            due("warm w " + w, x.warm(0, w, 0, 0), NO);
        }
        due("warm what under", x.warm(0, 1, -1, 0), NO);
        due("warm what over", x.warm(0, 1, 3, 0), NO);
        due("warm part under", x.warm(0, 1, 0, -1), NO);
        due("warm part over", x.warm(0, 1, 0, 2), NO);
        for (int p : NO_PLATE) {
            due("warm plate " + p, x.warm(p, 1, 0, 0), NO);
        }
        x.hurt(0, 0, 2);
        due("warm determinant 0", x.warm(0, 1, 0, 0), NO);
    }

    private static void holds() {
        int[][] loads = {{8, 0, 0}, {-8, 0, 0}, {0, 8, 0}, {0, -8, 0}, {0, 0, 8}, {0, 0, -8}};
        for (int i = 0; i < 6; i++) {
            int[] n = loads[i];
            PlyPlates x = plain(0);
            x.strength(0, Math.min(i, 4), 8);
            due("holds at the edge " + i, x.holds(0, n[0], n[1], n[2]), 1);
            x.strength(0, Math.min(i, 4), 7);
            due("holds past the edge " + i, x.holds(0, n[0], n[1], n[2]), 0);
        }
        PlyPlates x = plain(0);
        due("holds nothing to hold", x.holds(0, 0, 0, 0), 1);
        for (int n : OUTSIDE_LOAD) {
            due("holds nx " + n, x.holds(0, n, 0, 0), BAD);
            due("holds ny " + n, x.holds(0, 0, n, 0), BAD);
            due("holds ns " + n, x.holds(0, 0, 0, n), BAD);
        }
        for (int p : NO_PLATE) {
            due("holds plate " + p, x.holds(p, 101, 0, 0), NONE);
        }
        x.hurt(0, 0, 1);
        due("holds determinant 0", x.holds(0, 0, 0, 0), 0);
        due("holds BAD with determinant 0", x.holds(0, 101, 0, 0), BAD);
        due("holds of no layers", plain().holds(0, 0, 0, 0), 0);
    }

    private static void dueFirst(PlyPlates x, int nx, int ny, int ns, int want, int above, int below) {
        String load = nx + ", " + ny + ", " + ns + ")";
        due("first(0, " + load, x.first(0, nx, ny, ns), want);
        due("factor above(0, " + load, x.factor(0, nx, ny, ns, 0), above);
        due("factor below(0, " + load, x.factor(0, nx, ny, ns, 1), below);
    }

    /** A layer alone bears the whole pull, turned into its own ways. */
    private static void first() {
        dueFirst(plain(0), 8, 0, 0, 0, 25, 2);
        dueFirst(plain(0), -8, 0, 0, 1, 25, 2);
        dueFirst(plain(0), 0, 8, 0, 2, 25, 2);
        dueFirst(plain(0), 0, -8, 0, 3, 25, 2);
        dueFirst(plain(0), 0, 0, 3, 4, 100, 3);
        dueFirst(plain(0), 0, 0, -3, 4, 100, 3);
        dueFirst(plain(1), 0, 8, 0, 0, 25, 2);
        dueFirst(plain(1), -8, 0, 0, 3, 25, 2);
        dueFirst(plain(1), 0, 0, 3, 4, 100, 3);
        dueFirst(plain(2), 4, 4, 4, 0, 25, 2);
        dueFirst(plain(2), -4, -4, -4, 1, 25, 2);
        dueFirst(plain(2), 4, 4, -4, 2, 25, 2);
        dueFirst(plain(2), 4, -4, 0, 4, 25, 1);
        dueFirst(plain(3), 4, 4, -4, 0, 25, 2);
        dueFirst(plain(3), -4, -4, -4, 3, 25, 2);
        dueFirst(plain(3), -4, 4, 0, 4, 25, 1);
        PlyPlates x = plain(0, 1);
        x.strength(0, 2, 10);
        dueFirst(x, 10, 0, 0, 12, 5, 1);
        dueFirst(x, 0, 10, 0, 2, 5, 1);
        PlyPlates soft = new PlyPlates();
        soft.stuff(1, 1, 0, 1);
        soft.plate();
        soft.lay(0, 0, 0, 1);
        for (int kind = 0; kind < 5; kind++) {
            soft.strength(0, kind, 1000);
        }
        // The least share that there is above 0.
        dueFirst(soft, 1, 0, 0, 0, 1000, 1);
        dueFirst(soft, 0, 0, -1, 4, 1000, 1);
    }

    private static void firstTies() {
        dueFirst(plain(0, 0, 0), 9, 0, 0, 0, 100, 3);
        PlyPlates x = new PlyPlates();
        x.stuff(4, 4, 0, 1);
        x.plate();
        x.lay(0, 0, 0, 1);
        dueFirst(x, 5, 5, 5, 0, 20, 1);
        dueFirst(x, -5, 5, 5, 1, 20, 1);
        dueFirst(x, 5, -5, -6, 4, 50, 3);
        x.strength(0, 2, 99);
        dueFirst(x, 5, 5, 5, 2, 99, 5);
        x.lay(0, 0, 1, 1);
        x.strength(0, 2, 100);
        dueFirst(x, 10, 10, 0, 0, 20, 1);
        dueFirst(x, 0, 10, 0, 2, 20, 1);
        x.hurt(0, 0, 2);
        dueFirst(x, 5, 5, 0, 10, 20, 1);
    }

    private static void firstRefused() {
        PlyPlates x = plain(0);
        due("first of no pull", x.first(0, 0, 0, 0), NONE);
        for (int n : OUTSIDE_LOAD) {
            due("first nx " + n, x.first(0, n, 0, 0), BAD);
            due("first ny " + n, x.first(0, 0, n, 0), BAD);
            due("first ns " + n, x.first(0, 0, 0, n), BAD);
        }
        for (int p : NO_PLATE) {
            due("first plate " + p, x.first(p, 101, 0, 0), NONE);
        }
        x.hurt(0, 0, 1);
        due("first determinant 0", x.first(0, 1, 0, 0), NONE);
        due("first determinant 0 is told before BAD", x.first(0, 101, 0, 0), NONE);
    }

    private static void factor() {
        PlyPlates x = plain(0);
        due("factor of no pull", x.factor(0, 0, 0, 0, 0), NO);
        for (int n : OUTSIDE_LOAD) {
            due("factor nx " + n, x.factor(0, n, 0, 0, 0), NO);
            due("factor ny " + n, x.factor(0, 0, n, 0, 0), NO);
            due("factor ns " + n, x.factor(0, 0, 0, n, 0), NO);
        }
        due("factor part under", x.factor(0, 8, 0, 0, -1), NO);
        due("factor part over", x.factor(0, 8, 0, 0, 2), NO);
        for (int p : NO_PLATE) {
            due("factor plate " + p, x.factor(p, 8, 0, 0, 0), NO);
        }
        due("factor below 1", x.strength(0, 0, 1), 100);
        due("factor 1 by 8", x.factor(0, 8, 0, 0, 0) * 1000 + x.factor(0, 8, 0, 0, 1), 1008);
        x.hurt(0, 0, 2);
        due("factor determinant 0", x.factor(0, 8, 0, 0, 0), NO);
    }

    private static void dueStep(PlyPlates x, int i, int place, int above, int below) {
        due("step(" + i + ", 0)", x.step(i, 0), place);
        due("step(" + i + ", 1)", x.step(i, 1), above);
        due("step(" + i + ", 2)", x.step(i, 2), below);
    }

    /** First the crossed layer tears across, then the one along bears all of it, and then nothing is left. */
    private static void breaks() {
        PlyPlates x = plain(0, 1);
        x.strength(0, 2, 10);
        due("breaks", x.breaks(0, 10, 0, 0), 2);
        dueStep(x, 0, 12, 5, 1);
        dueStep(x, 1, 0, 10, 1);
        due("last", x.last(), 1);
        due("step under", x.step(-1, 0), NO);
        due("step over", x.step(2, 0), NO);
        due("step what under", x.step(0, -1), NO);
        due("step what over", x.step(0, 3), NO);
        due("step wild", x.step(Integer.MIN_VALUE, 0), NO);
        due("breaks one", plain(0).breaks(0, 8, 0, 0), 1);
        PlyPlates y = plain(0);
        due("breaks across", y.breaks(0, 0, 8, 0), 1);
        dueStep(y, 0, 2, 25, 2);
        due("breaks by shear", y.breaks(0, 0, 0, 8), 1);
        dueStep(y, 0, 4, 25, 2);
        PlyPlates z = plain(0, 1, 0);
        z.strength(0, 0, 1);
        // 72 ex = 400: 8 ex of the least layer by 1, then 40 ex = 400.
        due("breaks along", z.breaks(0, 100, 0, 0), 3);
        dueStep(z, 0, 0, 9, 400);
        dueStep(z, 1, 20, 1, 80);
        dueStep(z, 2, 12, 1, 1);
    }

    private static void breaksKeepsPlate() {
        PlyPlates x = plain(0, 1);
        x.strength(0, 2, 10);
        x.hurt(0, 1, 1);
        due("breaks what is left", x.breaks(0, 10, 0, 0), 1);
        dueStep(x, 0, 0, 10, 1);
        due("breaks: the plate whole", x.layer(0, 0, 3), 0);
        due("breaks: the plate torn", x.layer(0, 1, 3), 1);
        x.peel(0);
        x.peel(0);
        dueStep(x, 0, 0, 10, 1);
        due("last stays", x.last(), 0);
    }

    private static void breaksRefused() {
        PlyPlates x = plain(0, 1);
        x.strength(0, 2, 10);
        x.breaks(0, 10, 0, 0);
        for (int n : OUTSIDE_LOAD) {
            due("breaks nx " + n, x.breaks(0, n, 0, 0), BAD);
            due("breaks ny " + n, x.breaks(0, 0, n, 0), BAD);
            due("breaks ns " + n, x.breaks(0, 0, 0, n), BAD);
        }
        for (int p : NO_PLATE) {
            due("breaks plate " + p, x.breaks(p, 101, 0, 0), NONE);
        }
        due("refused: the latest stays", x.step(1, 0), 0);
        due("refused: last stays", x.last(), 1);
        due("breaks without a pull", x.breaks(0, 0, 0, 0), 0);
        due("no step", x.step(0, 0), NO);
        due("no last", x.last(), NONE);
        x.breaks(0, 10, 0, 0);
        x.plate();
        due("breaks of no layers", x.breaks(1, 10, 0, 0), 0);
        due("no step then", x.step(0, 0), NO);
        due("no last then", x.last(), NONE);
    }

    private static void last() {
        PlyPlates x = plain(0, 1);
        x.strength(0, 2, 10);
        x.strength(0, 0, 50);
        x.breaks(0, 10, 0, 0);
        dueStep(x, 1, 0, 5, 1);
        due("last of equal ones", x.last(), 0);
        x.strength(0, 0, 49);
        x.breaks(0, 10, 0, 0);
        due("last of falling ones", x.last(), 0);
        x.strength(0, 0, 51);
        x.breaks(0, 10, 0, 0);
        due("last of rising ones", x.last(), 1);
    }

    private static void rules() {
        PlyPlates x = plain(0, 1);
        due("rule at first", x.rule(0), 0);
        int[][] wrong = {{0, 0, 0}, {13, 0, 0}, {-1, 1, 1}, {1, 1, 4}, {1, 1, -1}, {Integer.MAX_VALUE, 0, 0}};
        for (int[] w : wrong) {
            due("rules BAD " + w[0] + " " + w[1] + " " + w[2], x.rules(w[0], w[1], w[2]), BAD);
        }
        due("rules as before", x.rule(0), 0);
        due("rules least", x.rules(1, 1, 0), 0);
        due("rule STEP", x.rule(0), 2);
        due("rules most", x.rules(12, 0, 3), 0);
        due("rule EACH", x.rule(0), 3);
        due("rules not 1", x.rules(12, 2, 0), 0);
        due("rule not", x.rule(0), 0);
    }

    private static void ruleRun() {
        PlyPlates x = plain(0, 0, 2, 2, 2, 1);
        for (int run = 1; run <= 12; run++) {
            x.rules(run, 0, 0);
            due("rule RUN " + run, x.rule(0), run < 3 ? 1 : 0);
        }
        PlyPlates y = plain(3, 3, 3, 3, 3, 3, 3, 3, 3, 3, 3, 3);
        due("rule twelve", y.rule(0), 0);
        y.rules(11, 0, 0);
        due("rule eleven", y.rule(0), 1);
        PlyPlates z = plain(0, 2, 0, 2);
        z.rules(1, 0, 0);
        due("rule RUN of alternate ones", z.rule(0), 0);
        PlyPlates thick = plain();
        thick.rules(1, 0, 0);
        thick.lay(0, 0, 0, 3);
        due("rule RUN counts layers", thick.rule(0), 0);
        thick.stuff(1, 1, 0, 1);
        thick.lay(0, 1, 0, 1);
        due("rule RUN of another stuff", thick.rule(0), 1);
    }

    private static void ruleStepAndEach() {
        int[][] apart = {{0, 2, 1}, {1, 3, 0}, {0, 0}, {1, 1}, {2, 3}, {0, 3, 1}, {}};
        int[][] close = {{0, 1}, {1, 0}, {2, 1, 0}, {3, 0, 1, 2}};
        for (int[] ways : apart) {
            PlyPlates x = plain(ways);
            x.rules(12, 1, 0);
            due("rule STEP kept", x.rule(0), 0);
        }
        for (int[] ways : close) {
            PlyPlates x = plain(ways);
            x.rules(12, 1, 0);
            due("rule STEP", x.rule(0), 2);
        }
        int[] ways = {0, 2, 1, 3};
        for (int missing = 0; missing < 4; missing++) {
            PlyPlates x = plain();
            for (int i = 0; i < 7; i++) {
                x.lay(0, 0, ways[(i + missing) % 4], 1);
            }
            x.rules(12, 0, 1);
            due("rule EACH 1", x.rule(0), 0);
            x.rules(12, 0, 2);
            due("rule EACH 2", x.rule(0), 3);
            x.lay(0, 0, ways[(7 + missing) % 4], 1);
            due("rule EACH 2 kept", x.rule(0), 0);
            x.rules(12, 0, 3);
            due("rule EACH 3", x.rule(0), 3);
        }
        PlyPlates x = plain(0, 0, 1);
        x.rules(1, 1, 1);
        due("rule RUN before STEP", x.rule(0), 1);
        x.rules(2, 1, 1);
        due("rule STEP before EACH", x.rule(0), 2);
        x.rules(2, 0, 1);
        due("rule EACH", x.rule(0), 3);
        due("rule of no layers", plain().rule(0), 0);
        for (int p : NO_PLATE) {
            due("rule plate " + p, x.rule(p), NONE);
        }
    }

    private static void load() {
        PlyPlates x = new PlyPlates();
        for (int n : OUTSIDE_LOAD) {
            due("load nx " + n, x.load(n, 0, 0), BAD);
            due("load ny " + n, x.load(0, n, 0), BAD);
            due("load ns " + n, x.load(0, 0, n), BAD);
        }
        due("no cases", x.count(2), 0);
        due("load 0", x.load(-100, -100, -100), 0);
        due("load 1", x.load(100, 100, 100), 1);
        due("load 2", x.load(0, 0, 0), 2);
        due("load 3", x.load(0, 0, 0), 3);
        due("load FULL", x.load(0, 0, 0), FULL);
        due("load BAD before FULL", x.load(101, 0, 0), BAD);
        due("four cases", x.count(2), 4);
    }

    private static void unload() {
        PlyPlates x = plain();
        x.load(100, 0, 0);
        x.load(0, 100, 0);
        x.strength(0, 0, 1);
        due("fewest before", x.fewest(0, 0), STATE);
        due("unload", x.unload(), 2);
        due("unload again", x.unload(), 0);
        due("unload: none", x.count(2), 0);
        due("fewest behind", x.fewest(0, 0), 2);
        due("load anew", x.load(1, 0, 0), 0);
    }

    private static void dueWays(PlyPlates x, int plate, int... ways) {
        due("fewest count", x.count(10 + plate), ways.length);
        due("fewest thickness", x.count(20 + plate), ways.length);
        due("fewest even", x.even(plate), 1);
        for (int i = 0; i < ways.length; i++) {
            due("fewest way " + i, x.layer(plate, i, 1), ways[i]);
            due("fewest thickness " + i, x.layer(plate, i, 2), 1);
            due("fewest whole " + i, x.layer(plate, i, 3), 0);
        }
    }

    private static void fewestByRules() {
        PlyPlates x = plain(3, 3, 3);
        x.hurt(0, 0, 2);
        x.hurt(0, 1, 1);
        x.stuff(20, 10, 1, 3);
        due("fewest", x.fewest(0, 1), 2);
        dueWays(x, 0, 0, 0);
        due("fewest of its stuff", x.layer(0, 0, 0) + x.layer(0, 1, 0), 2);
        x.rules(12, 0, 1);
        due("fewest of each way", x.fewest(0, 0), 8);
        dueWays(x, 0, 0, 1, 2, 3, 3, 2, 1, 0);
        x.rules(2, 1, 2);
        due("fewest by STEP", x.fewest(0, 0), 8);
        dueWays(x, 0, 0, 2, 1, 3, 3, 1, 2, 0);
        x.rules(1, 0, 0);
        due("fewest by RUN 1", x.fewest(0, 0), STATE);
        x.rules(12, 0, 3);
        due("fewest by EACH 3", x.fewest(0, 0), STATE);
        dueWays(x, 0, 0, 2, 1, 3, 3, 1, 2, 0);
    }

    /** Weak across and by shear, so that only layers that lie along a pull bear it. */
    private static void fewestByCases() {
        PlyPlates x = plain();
        x.load(100, 0, 0);
        for (int kind = 2; kind < 5; kind++) {
            x.strength(0, kind, 1);
        }
        x.strength(0, 0, 10);
        due("fewest: ten at the edge", x.fewest(0, 0), 10);
        dueWays(x, 0, 0, 0, 0, 0, 0, 0, 0, 0, 0, 0);
        x.strength(0, 0, 9);
        due("fewest: past the edge", x.fewest(0, 0), STATE);
        due("fewest: the plate as it was", x.count(10), 10);
        x.strength(0, 0, 25);
        due("fewest: four", x.fewest(0, 0), 4);
        x.strength(0, 0, 24);
        due("fewest: six", x.fewest(0, 0), 6);
        x.rules(5, 0, 0);
        due("fewest: by case and rule", x.fewest(0, 0), STATE);
        x.rules(12, 0, 0);
        x.unload();
        x.load(0, 90, 0);
        x.strength(0, 0, 15);
        x.strength(0, 2, 15);
        due("fewest: six, lying along", x.fewest(0, 0), 6);
        dueWays(x, 0, 0, 0, 0, 0, 0, 0);
        x.strength(0, 2, 14);
        due("fewest: six, lying across", x.fewest(0, 0), 6);
        dueWays(x, 0, 1, 1, 1, 1, 1, 1);
        x.load(0, -100, 0);
        x.strength(0, 1, 13);
        due("fewest: the second case asks for more", x.fewest(0, 0), 8);
        x.load(0, 0, 9);
        due("fewest: the third case asks for ten", x.fewest(0, 0), 10);
        x.strength(0, 4, 2);
        due("fewest: all three cases", x.fewest(0, 0), 8);
        dueWays(x, 0, 1, 1, 1, 1, 1, 1, 1, 1);
    }

    private static void fewestRefused() {
        PlyPlates x = plain(0, 1);
        for (int p : NO_PLATE) {
            due("fewest plate " + p, x.fewest(p, 0), NONE);
            due("fewest stuff " + p, x.fewest(0, p), NONE);
        }
        x.rules(1, 0, 0);
        due("fewest NONE before STATE", x.fewest(0, 1), NONE);
        due("fewest changes nothing", x.layer(0, 1, 1), 1);
    }

    private static PlyPlates two(int[] a, int[] b) {
        PlyPlates x = plain(a);
        x.plate();
        for (int way : b) {
            x.lay(1, 0, way, 1);
        }
        return x;
    }

    private static void dueDrop(int[] a, int[] b, int bits) {
        PlyPlates x = two(a, b);
        due("drop of " + a.length + " and " + b.length, x.drop(0, 1), bits);
        due("comes of " + a.length + " and " + b.length, x.comes(0, 1), bits == NONE ? 0 : 1);
    }

    private static void comes() {
        int[] none = {};
        dueDrop(none, none, 0);
        dueDrop(new int[] {0, 1}, none, 3);
        dueDrop(none, new int[] {0}, NONE);
        dueDrop(new int[] {0, 1, 2}, new int[] {0, 1, 2}, 0);
        dueDrop(new int[] {0, 1, 2}, new int[] {2, 1}, NONE);
        dueDrop(new int[] {0, 1, 2}, new int[] {0, 0}, NONE);
        dueDrop(new int[] {0, 1, 0, 1, 0}, new int[] {1, 0}, 1 + 8 + 16);
        dueDrop(new int[] {0, 0, 0}, new int[] {0}, 6);
        dueDrop(new int[] {0, 1}, new int[] {0, 1, 0}, NONE);
        dueDrop(new int[] {3, 3, 3, 3, 3, 3, 3, 3, 3, 3, 3, 2}, new int[] {2}, 2047);
    }

    private static void drop() {
        PlyPlates x = two(new int[] {0, 0, 0}, new int[] {0});
        x.hurt(0, 0, 1);
        due("drop: broken", x.drop(0, 1), 5);
        x.hurt(1, 0, 2);
        due("drop: broken otherwise", x.drop(0, 1), NONE);
        due("comes: broken otherwise", x.comes(0, 1), 0);
        x.hurt(1, 0, 1);
        due("drop: broken alike", x.drop(0, 1), 6);
        x.peel(1);
        x.lay(1, 0, 0, 2);
        due("drop: thickness", x.drop(0, 1), NONE);
        x.peel(1);
        x.stuff(8, 2, 0, 1);
        x.lay(1, 1, 0, 1);
        due("drop: stuff", x.drop(0, 1), NONE);
        due("drop of itself", x.drop(0, 0), 0);
        due("comes of itself", x.comes(0, 0), 1);
        int[] wrong = {-1, 2, Integer.MIN_VALUE, Integer.MAX_VALUE};
        for (int p : wrong) {
            due("comes a " + p, x.comes(p, 0), NONE);
            due("comes b " + p, x.comes(0, p), NONE);
            due("drop a " + p, x.drop(p, 0), NONE);
            due("drop b " + p, x.drop(0, p), NONE);
        }
    }

    private static void count() {
        PlyPlates x = threeLayers();
        x.plate();
        x.lay(1, 0, 0, 3);
        x.load(1, 2, 3);
        due("count stuffs", x.count(0), 1);
        due("count plates", x.count(1), 2);
        due("count cases", x.count(2), 1);
        due("count layers", x.count(10), 3);
        due("count layers of the next", x.count(11), 1);
        due("count thickness", x.count(20), 6);
        due("count thickness of the next", x.count(21), 3);
        x.hurt(0, 0, 2);
        due("count thickness of broken ones, too", x.count(20), 6);
        int[] wrong = {-1, 3, 9, 12, 13, 14, 19, 22, 24, 30, Integer.MIN_VALUE, Integer.MIN_VALUE + 9, Integer.MAX_VALUE};
        for (int what : wrong) {
            due("count " + what, x.count(what), NONE);
        }
    }
}
