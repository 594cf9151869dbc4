/**
 * Each sentence of the document that says what a number may be: the least and the greatest one are taken, the ones
 * beside them and int's own least and greatest are not.
 */
public final class NumbersTest {
    private static final int NONE = PlyPlates.NONE;
    private static final int BAD = PlyPlates.BAD;
    private static final long NO = PlyPlates.NO;
    private static final int[] NO_LOAD = Edges.outside(-100, 100);

    private NumbersTest() {
    }

    public static void main(String[] args) {
        stiffnessAlone();
        stiffnessTogether();
        stiffnessThatWraps();
        strengths();
        kinds();
        growths();
        stuffNumbers();
        ways();
        thickness();
        plateNumbers();
        layerNumbers();
        broken();
        layerWhats();
        tableParts();
        pullsOfStretch();
        pullsOfHolds();
        pullsOfFirstAndFactor();
        pullsOfBreaks();
        pullsOfLoad();
        stretchWhats();
        warmth();
        warmWhats();
        factorParts();
        stepNumbers();
        runs();
        stepRule();
        each();
        countWhats();
        Checks.end();
    }

    private static void due(String call, long got, long want) {
        Checks.due(call, got, want);
    }

    /** One stuff and one plate, with layers of thickness 1 that lie these ways. */
    private static PlyPlates plain(int... ways) {
        PlyPlates x = new PlyPlates();
        x.stuff(8, 2, 0, 1);
        x.plate();
        for (int way : ways) {
            x.lay(0, 0, way, 1);
        }
        return x;
    }

    private static void dueTaken(int... q) {
        String name = "stuff(" + q[0] + ", " + q[1] + ", " + q[2] + ", " + q[3] + ")";
        PlyPlates x = new PlyPlates();
        due(name, x.stuff(q[0], q[1], q[2], q[3]), 0);
        due(name + " counts", x.count(0), 1);
        x.plate();
        x.lay(0, 0, 0, 1);
        for (int i = 0; i < 4; i++) {
            due(name + " keeps its number " + i, x.layer(0, 0, 4 + i), 4 * q[i]);
        }
    }

    private static void dueBad(int... q) {
        String name = "stuff(" + q[0] + ", " + q[1] + ", " + q[2] + ", " + q[3] + ")";
        PlyPlates x = new PlyPlates();
        due(name, x.stuff(q[0], q[1], q[2], q[3]), BAD);
        due(name + " leaves none", x.count(0), 0);
    }

    /** "Q11, Q22, Q66 1 .. 200, Q12 0 .. 200". */
    private static void stiffnessAlone() {
        for (int place : new int[] {0, 1, 3}) {
            int[] q = {50, 60, 0, 70};
            for (int v : new int[] {1, 2, 199, 200}) {
                q[place] = v;
                dueTaken(q);
            }
            for (int v : Edges.outside(1, 200)) {
                q[place] = v;
                dueBad(q);
            }
        }
        for (int v : Edges.outside(0, 200)) {
            dueBad(200, 200, v, 1);
        }
        dueTaken(1, 1, 0, 1);
        dueTaken(200, 200, 0, 200);
        for (int[] q : new int[][] {{0, 0, 0, 0}, {-1, -1, 0, 1}, {-4, -4, 1, 1}, {201, 201, 201, 201}}) {
            dueBad(q);
        }
    }

    /** "with Q12 Q12 less than Q11 Q22": as much is not less. */
    private static void stiffnessTogether() {
        int[][] less = {{2, 5, 3}, {5, 2, 3}, {1, 2, 1}, {200, 200, 199}, {199, 200, 199}, {200, 199, 199}, {4, 9, 5}};
        int[][] asMuch = {{1, 9, 3}, {9, 1, 3}, {1, 1, 1}, {200, 200, 200}, {199, 199, 199}, {4, 9, 6}, {2, 8, 4}};
        int[][] more = {{1, 8, 3}, {8, 1, 3}, {1, 1, 2}, {198, 200, 199}, {200, 198, 199}, {1, 200, 200}, {4, 9, 7}};
        for (int[] q : less) {
            dueTaken(q[0], q[1], q[2], 7);
        }
        for (int[] q : asMuch) {
            dueBad(q[0], q[1], q[2], 7);
        }
        for (int[] q : more) {
            dueBad(q[0], q[1], q[2], 7);
        }
    }

    /** Squares and products that come round to small numbers: 65536 times itself is 0 in an int. */
    private static void stiffnessThatWraps() {
        dueBad(5, 5, 65536, 1);
        dueBad(5, 5, -65536, 1);
        dueBad(5, 5, 46341, 1);
        dueBad(65536, 65536, 0, 1);
        dueBad(46341, 46341, 0, 1);
        dueBad(65537, 65537, 0, 1);
        dueBad(-5, -5, 0, 1);
        dueBad(5, 5, -4, 1);
    }

    /** "STRENGTHS, 1 .. 1000 each". */
    private static void strengths() {
        for (int kind = 0; kind < 5; kind++) {
            PlyPlates x = plain();
            due("strength at first", x.strength(0, kind, 1), 100);
            due("strength least", x.strength(0, kind, 1000), 1);
            due("strength greatest", x.strength(0, kind, 2), 1000);
            for (int v : Edges.outside(1, 1000)) {
                due("strength(0, " + kind + ", " + v + ")", x.strength(0, kind, v), BAD);
            }
            due("strength is as it was", x.strength(0, kind, 999), 2);
            due("strength beside the greatest", x.strength(0, kind, 5), 999);
        }
    }

    /** "0 pull along, 1 push along, 2 pull across, 3 push across, 4 shear": of no other kind there is a strength. */
    private static void kinds() {
        PlyPlates x = plain();
        for (int kind = 0; kind < 5; kind++) {
            x.strength(0, kind, 11 + kind);
        }
        for (int kind : Edges.outside(0, 4)) {
            due("strength(0, " + kind + ", 9)", x.strength(0, kind, 9), BAD);
        }
        for (int kind = 0; kind < 5; kind++) {
            due("strength of kind " + kind, x.strength(0, kind, 1), 11 + kind);
        }
    }

    /** "GROWTH along and across, -20 .. 20 each". */
    private static void growths() {
        PlyPlates x = plain(0);
        for (int v : new int[] {-20, 20, -19, 19, 0}) {
            due("growth along " + v, x.growth(0, v, 7), 0);
            dueGrowth(x, v, 7);
            due("growth across " + v, x.growth(0, -7, v), 0);
            dueGrowth(x, -7, v);
        }
        x.growth(0, 3, 4);
        for (int v : Edges.outside(-20, 20)) {
            due("growth(0, " + v + ", 0)", x.growth(0, v, 0), BAD);
            due("growth(0, 0, " + v + ")", x.growth(0, 0, v), BAD);
            dueGrowth(x, 3, 4);
        }
    }

    /** A layer alone grows as its stuff does. */
    private static void dueGrowth(PlyPlates x, int along, int across) {
        due("growth along stands", x.warm(0, 1, 0, 0), along);
        due("growth across stands", x.warm(0, 1, 1, 0), across);
    }

    /** "STUFFS are numbered from 0 on": of so many the last is one less. */
    private static void stuffNumbers() {
        for (int count = 0; count <= 3; count++) {
            PlyPlates x = new PlyPlates();
            x.plate();
            for (int i = 0; i < count; i++) {
                due("stuff " + i, x.stuff(10 + i, 5, 0, 1), i);
            }
            for (int i = 0; i < count; i++) {
                due("strength of stuff " + i, x.strength(i, 0, 9), 100);
                due("growth of stuff " + i, x.growth(i, 1, 1), 0);
                due("lay stuff " + i, x.lay(0, i, 0, 1), i);
                due("stuff of layer " + i, x.layer(0, i, 0), i);
                due("Q11 of layer " + i, x.layer(0, i, 4), 4 * (10 + i));
            }
            for (int i : Edges.notOf(count)) {
                due("strength(" + i + ", 0, 9) of " + count, x.strength(i, 0, 9), NONE);
                due("growth(" + i + ", 1, 1) of " + count, x.growth(i, 1, 1), NONE);
                due("lay(0, " + i + ", 0, 1) of " + count, x.lay(0, i, 0, 1), NONE);
                due("fewest(0, " + i + ") of " + count, x.fewest(0, i), NONE);
            }
            due("layers", x.count(10), count);
        }
    }

    /** "NONE (WAY, too)". */
    private static void ways() {
        PlyPlates x = plain();
        for (int way = 0; way < 4; way++) {
            due("lay way " + way, x.lay(0, 0, way, 1), way);
            due("way " + way, x.layer(0, way, 1), way);
        }
        for (int way : Edges.outside(0, 3)) {
            due("lay(0, 0, " + way + ", 1)", x.lay(0, 0, way, 1), NONE);
        }
        due("layers of four ways", x.count(10), 4);
    }

    /** "a thickness 1 .. 3". */
    private static void thickness() {
        PlyPlates x = plain();
        for (int thick = 1; thick <= 3; thick++) {
            due("lay thickness " + thick, x.lay(0, 0, 0, thick), thick - 1);
            due("thickness " + thick, x.layer(0, thick - 1, 2), thick);
        }
        for (int thick : Edges.outside(1, 3)) {
            due("lay(0, 0, 0, " + thick + ")", x.lay(0, 0, 0, thick), BAD);
        }
        due("layers of three", x.count(10), 3);
        due("thickness of three", x.count(20), 6);
    }

    /** "PLATES are numbered from 0 on": of so many the last is one less, and each call knows that. */
    private static void plateNumbers() {
        for (int count = 0; count <= 4; count++) {
            PlyPlates x = new PlyPlates();
            x.stuff(8, 2, 0, 1);
            for (int i = 0; i < count; i++) {
                due("plate " + i, x.plate(), i);
                due("lay on plate " + i, x.lay(i, 0, i, 1), 0);
                due("way on plate " + i, x.layer(i, 0, 1), i);
                due("determinant of plate " + i, x.determinant(i), 4 * 4 * 4 * 8 * 2);
            }
            for (int i : Edges.notOf(count)) {
                dueNoPlate(x, i, " of " + count);
            }
            due("plates", x.count(1), count);
        }
    }

    private static void dueNoPlate(PlyPlates x, int p, String of) {
        String name = " plate " + p + of;
        due("lay" + name, x.lay(p, 0, 0, 1), NONE);
        due("peel" + name, x.peel(p), NONE);
        due("hurt" + name, x.hurt(p, 0, 1), NONE);
        due("layer" + name, x.layer(p, 0, 0), NONE);
        due("table" + name, x.table(p, 0, 0), NO);
        due("tied" + name, x.tied(p), NONE);
        due("even" + name, x.even(p), NONE);
        due("determinant" + name, x.determinant(p), NO);
        due("stretch" + name, x.stretch(p, 1, 1, 1, 0, 0), NO);
        due("warm" + name, x.warm(p, 1, 0, 0), NO);
        due("holds" + name, x.holds(p, 1, 1, 1), NONE);
        due("first" + name, x.first(p, 1, 1, 1), NONE);
        due("factor" + name, x.factor(p, 1, 1, 1, 0), NO);
        due("breaks" + name, x.breaks(p, 1, 1, 1), NONE);
        due("rule" + name, x.rule(p), NONE);
        due("fewest" + name, x.fewest(p, 0), NONE);
        due("comes of" + name, x.comes(p, 0), NONE);
        due("comes b" + name, x.comes(0, p), NONE);
        due("drop of" + name, x.drop(p, 0), NONE);
        due("drop b" + name, x.drop(0, p), NONE);
    }

    /** "LAYERS, numbered from 0 on": of so many the last is one less. */
    private static void layerNumbers() {
        for (int count = 0; count <= 12; count++) {
            PlyPlates x = plain();
            for (int i = 0; i < count; i++) {
                due("lay " + i, x.lay(0, 0, 0, 1 + i % 3), i);
            }
            for (int i = 0; i < count; i++) {
                due("layer " + i + " of " + count, x.layer(0, i, 2), 1 + i % 3);
                due("hurt " + i + " of " + count, x.hurt(0, i, 1), 0);
            }
            for (int i : Edges.notOf(count)) {
                due("layer " + i + " of " + count, x.layer(0, i, 2), NONE);
                due("hurt " + i + " of " + count, x.hurt(0, i, 1), NONE);
            }
        }
    }

    /** "A LAYER is BROKEN so (0 .. 2)". */
    private static void broken() {
        PlyPlates x = plain(0, 0);
        int was = 0;
        for (int how : new int[] {2, 0, 1, 2, 1, 0, 0}) {
            due("hurt " + how, x.hurt(0, 1, how), was);
            due("hurt so", x.layer(0, 1, 3), how);
            was = how;
        }
        x.hurt(0, 1, 1);
        for (int how : Edges.outside(0, 2)) {
            due("hurt(0, 1, " + how + ")", x.hurt(0, 1, how), BAD);
            due("hurt as it was", x.layer(0, 1, 3), 1);
        }
        due("hurt not the other", x.layer(0, 0, 3), 0);
    }

    /** "what 0 STUFF, 1 WAY, 2 thickness, 3 BROKEN; 4 to 9 T11, T22, T12, T66, T16, T26". */
    private static void layerWhats() {
        PlyPlates x = plain(2);
        x.hurt(0, 0, 1);
        int[] want = {0, 2, 1, 1, 8, 8, 8, 8, 8, 8};
        for (int what = 0; what < 10; what++) {
            due("layer what " + what, x.layer(0, 0, what), want[what]);
        }
        for (int what : Edges.outside(0, 9)) {
            due("layer(0, 0, " + what + ")", x.layer(0, 0, what), NONE);
        }
    }

    /** "part 0 A, 1 B, 2 D; what 0 to 5". */
    private static void tableParts() {
        PlyPlates x = plain(3);
        long[] want = {14, 14, 6, 10, -6, -6};
        for (int what = 0; what < 6; what++) {
            due("A of one layer, " + what, x.table(0, 0, what), want[what]);
            due("B of one layer, " + what, x.table(0, 1, what), 0);
            due("D of one layer, " + what, x.table(0, 2, what), 2 * want[what]);
        }
        for (int part : Edges.outside(0, 2)) {
            due("table(0, " + part + ", 0)", x.table(0, part, 0), NO);
            due("table(0, " + part + ", 5)", x.table(0, part, 5), NO);
        }
        for (int what : Edges.outside(0, 5)) {
            for (int part = 0; part < 3; part++) {
                due("table(0, " + part + ", " + what + ")", x.table(0, part, what), NO);
            }
        }
    }

    /** "three PULLS nx, ny, ns (-100 .. 100 each)". */
    private static void pullsOfStretch() {
        PlyPlates x = plain(0);
        int[] stiffness = {8, 2, 1};
        for (int v : new int[] {-100, 100, -99, 99}) {
            for (int place = 0; place < 3; place++) {
                int[] n = {0, 0, 0};
                n[place] = v;
                long above = x.stretch(0, n[0], n[1], n[2], place, 0);
                long below = x.stretch(0, n[0], n[1], n[2], place, 1);
                due("stretch by " + v + " at " + place, above * stiffness[place], below * v);
                Checks.dueTrue("below is above 0", below > 0);
            }
        }
        for (int v : NO_LOAD) {
            due("stretch nx " + v, x.stretch(0, v, 0, 0, 0, 0), NO);
            due("stretch ny " + v, x.stretch(0, 0, v, 0, 1, 0), NO);
            due("stretch ns " + v, x.stretch(0, 0, 0, v, 2, 1), NO);
        }
    }

    private static void pullsOfHolds() {
        PlyPlates x = plain(0);
        for (int sign = -1; sign <= 1; sign += 2) {
            due("holds nx 100", x.holds(0, sign * 100, 0, 0), 1);
            due("holds ny 100", x.holds(0, 0, sign * 100, 0), 1);
            due("holds ns 100", x.holds(0, 0, 0, sign * 100), 1);
            due("holds all", x.holds(0, sign * 100, sign * 100, sign * 100), 1);
        }
        for (int v : NO_LOAD) {
            due("holds nx " + v, x.holds(0, v, 0, 0), BAD);
            due("holds ny " + v, x.holds(0, 0, v, 0), BAD);
            due("holds ns " + v, x.holds(0, 0, 0, v), BAD);
        }
    }

    private static void pullsOfFirstAndFactor() {
        PlyPlates x = plain(0);
        int[][] loads = {{100, 0, 0}, {-100, 0, 0}, {0, 100, 0}, {0, -100, 0}, {0, 0, 100}, {0, 0, -100}};
        for (int i = 0; i < 6; i++) {
            int[] n = loads[i];
            due("first " + i, x.first(0, n[0], n[1], n[2]), Math.min(i, 4));
            due("factor " + i, x.factor(0, n[0], n[1], n[2], 0), 1);
            due("factor, below " + i, x.factor(0, n[0], n[1], n[2], 1), 1);
        }
        for (int v : NO_LOAD) {
            due("first nx " + v, x.first(0, v, 0, 0), BAD);
            due("first ny " + v, x.first(0, 0, v, 0), BAD);
            due("first ns " + v, x.first(0, 0, 0, v), BAD);
            due("factor nx " + v, x.factor(0, v, 0, 0, 0), NO);
            due("factor ny " + v, x.factor(0, 0, v, 0, 1), NO);
            due("factor ns " + v, x.factor(0, 0, 0, v, 0), NO);
        }
    }

    private static void pullsOfBreaks() {
        PlyPlates x = plain(0);
        int[][] loads = {{100, 0, 0}, {-100, 0, 0}, {0, 100, 0}, {0, -100, 0}, {0, 0, 100}, {0, 0, -100}};
        for (int i = 0; i < 6; i++) {
            int[] n = loads[i];
            due("breaks " + i, x.breaks(0, n[0], n[1], n[2]), 1);
            due("breaks so " + i, x.step(0, 0), Math.min(i, 4));
        }
        for (int v : NO_LOAD) {
            due("breaks nx " + v, x.breaks(0, v, 0, 0), BAD);
            due("breaks ny " + v, x.breaks(0, 0, v, 0), BAD);
            due("breaks ns " + v, x.breaks(0, 0, 0, v), BAD);
            due("the break before stays", x.step(0, 0), 4);
        }
    }

    private static void pullsOfLoad() {
        for (int place = 0; place < 3; place++) {
            PlyPlates x = new PlyPlates();
            int taken = 0;
            for (int v : new int[] {-100, 100, -99, 99}) {
                int[] n = {0, 0, 0};
                n[place] = v;
                due("load " + v + " at " + place, x.load(n[0], n[1], n[2]), taken);
                taken++;
            }
            x.unload();
            for (int v : NO_LOAD) {
                int[] n = {0, 0, 0};
                n[place] = v;
                due("load " + v + " at " + place, x.load(n[0], n[1], n[2]), BAD);
            }
            due("no case of these", x.count(2), 0);
        }
    }

    /** "what 0 ex, 1 ey, 2 es: what is above the line (part 0), below it (1)". */
    private static void stretchWhats() {
        PlyPlates x = plain(0);
        long[][] want = {{-3, 8}, {5, 2}, {-7, 1}};
        for (int what = 0; what < 3; what++) {
            due("stretch above " + what, x.stretch(0, -3, 5, -7, what, 0), want[what][0]);
            due("stretch below " + what, x.stretch(0, -3, 5, -7, what, 1), want[what][1]);
            due("stretch of none, above " + what, x.stretch(0, 0, 0, 0, what, 0), 0);
            due("stretch of none, below " + what, x.stretch(0, 0, 0, 0, what, 1), 1);
        }
        for (int what : Edges.outside(0, 2)) {
            due("stretch what " + what, x.stretch(0, -3, 5, -7, what, 0), NO);
        }
        for (int part : Edges.outside(0, 1)) {
            due("stretch part " + part, x.stretch(0, -3, 5, -7, 0, part), NO);
            due("stretch of none, part " + part, x.stretch(0, 0, 0, 0, 0, part), NO);
        }
    }

    /** "WARM by w (-100 .. 100)". */
    private static void warmth() {
        PlyPlates x = plain(0);
        x.growth(0, 20, -20);
        for (int w : new int[] {-100, 100, -99, 99, 0}) {
            due("warm by " + w, x.warm(0, w, 0, 0), 20 * w);
            due("warm by " + w + ", across", x.warm(0, w, 1, 0), -20 * w);
        }
        for (int w : Edges.outside(-100, 100)) {
            due("warm(0, " + w + ", 0, 0)", x.warm(0, w, 0, 0), NO);
            due("warm(0, " + w + ", 2, 1)", x.warm(0, w, 2, 1), NO);
        }
    }

    private static void warmWhats() {
        PlyPlates x = plain(2);
        x.growth(0, 2, 5);
        long[] want = {21, 21, -18};
        for (int what = 0; what < 3; what++) {
            due("warm above " + what, x.warm(0, 6, what, 0), want[what]);
            due("warm below " + what, x.warm(0, 6, what, 1), 1);
            due("not warm, above " + what, x.warm(0, 0, what, 0), 0);
            due("not warm, below " + what, x.warm(0, 0, what, 1), 1);
        }
        for (int what : Edges.outside(0, 2)) {
            due("warm what " + what, x.warm(0, 6, what, 0), NO);
        }
        for (int part : Edges.outside(0, 1)) {
            due("warm part " + part, x.warm(0, 6, 0, part), NO);
        }
    }

    /** "part 0 above, 1 below the line". */
    private static void factorParts() {
        PlyPlates x = plain(0);
        due("factor above", x.factor(0, 15, 0, 0, 0), 20);
        due("factor below", x.factor(0, 15, 0, 0, 1), 3);
        for (int part : Edges.outside(0, 1)) {
            due("factor part " + part, x.factor(0, 15, 0, 0, part), NO);
        }
    }

    /** "Of step i of the latest THE BREAK what 0 .. 1 above, 2 below the line. NO." */
    private static void stepNumbers() {
        PlyPlates x = plain(0, 1);
        x.strength(0, 2, 10);
        long[][] want = {{12, 10, 3}, {0, 20, 3}};
        due("breaks in two", x.breaks(0, 15, 0, 0), 2);
        for (int what = 0; what < 3; what++) {
            due("step(0, " + what + ")", x.step(0, what), want[0][what]);
            due("step(1, " + what + ")", x.step(1, what), want[1][what]);
            for (int i : Edges.notOf(2)) {
                due("step(" + i + ", " + what + ")", x.step(i, what), NO);
            }
        }
        for (int what : Edges.outside(0, 2)) {
            due("step(0, " + what + ")", x.step(0, what), NO);
            due("step(1, " + what + ")", x.step(1, what), NO);
        }
        x.breaks(0, 0, 0, 0);
        for (int i : Edges.notOf(0)) {
            due("step(" + i + ", 0) of none", x.step(i, 0), NO);
        }
    }

    /** "RUN (1 .. 12: no more LAYERS of one WAY one on another; 12 at first)". */
    private static void runs() {
        PlyPlates x = plain(0);
        for (int layers = 1; layers <= 12; layers++) {
            due("at first a run of " + layers, x.rule(0), 0);
            for (int run = 1; run <= 12; run++) {
                due("rules(" + run + ", 0, 0)", x.rules(run, 0, 0), 0);
                due(layers + " of a run of at most " + run, x.rule(0), layers > run ? 1 : 0);
            }
            x.lay(0, 0, 0, 1);
        }
        PlyPlates y = plain(0, 0);
        y.rules(1, 0, 0);
        for (int run : Edges.outside(1, 12)) {
            due("rules(" + run + ", 0, 0)", y.rules(run, 0, 0), BAD);
            due("a run as before", y.rule(0), 1);
        }
    }

    /** "STEP (1 or not: ..; not at first)": whatever is not 1 is not, int's own least and greatest too. */
    private static void stepRule() {
        PlyPlates x = plain(0, 1);
        due("not at first", x.rule(0), 0);
        for (int step : Edges.outside(1, 1)) {
            x.rules(12, 1, 0);
            due("STEP", x.rule(0), 2);
            due("rules(12, " + step + ", 0)", x.rules(12, step, 0), 0);
            due("not STEP", x.rule(0), 0);
        }
    }

    /** "EACH (0 .. 3: so many LAYERS at least of each of the four WAYS; 0 at first)". */
    private static void each() {
        PlyPlates x = plain();
        due("at first none of each", x.rule(0), 0);
        for (int rounds = 0; rounds <= 3; rounds++) {
            for (int each = 0; each <= 3; each++) {
                due("rules(12, 0, " + each + ")", x.rules(12, 0, each), 0);
                due(rounds + " of each, at least " + each, x.rule(0), rounds < each ? 3 : 0);
            }
            for (int way = 0; way < 4; way++) {
                x.lay(0, 0, way, 1);
            }
        }
        PlyPlates y = plain();
        y.rules(12, 0, 1);
        for (int each : Edges.outside(0, 3)) {
            due("rules(12, 0, " + each + ")", y.rules(12, 0, each), BAD);
            due("of each as before", y.rule(0), 3);
        }
    }

    /** "0 STUFFS, 1 PLATES, 2 CASES; 10 + PLATE: its LAYERS; 20 + PLATE: its thickness. NONE." */
    private static void countWhats() {
        for (int plates = 0; plates <= 4; plates++) {
            PlyPlates x = new PlyPlates();
            x.stuff(8, 2, 0, 1);
            x.stuff(8, 2, 0, 1);
            x.load(1, 1, 1);
            for (int i = 0; i < plates; i++) {
                x.plate();
                for (int k = 0; k <= i; k++) {
                    x.lay(i, 0, 0, 3);
                }
            }
            int[] small = {2, plates, 1};
            for (int what = -30; what <= 300; what++) {
                int want = NONE;
                if (what >= 0 && what < 3) {
                    want = small[what];
                } else if (what >= 10 && what < 10 + plates) {
                    want = what - 9;
                } else if (what >= 20 && what < 20 + plates) {
                    want = 3 * (what - 19);
                }
                due("count(" + what + ") of " + plates, x.count(what), want);
            }
            for (int what : Edges.outside(0, 23)) {
                due("count(" + what + ") of " + plates, x.count(what), NONE);
            }
        }
    }
}
