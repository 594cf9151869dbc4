import java.math.BigInteger;
import java.util.Arrays;

/** What empty and full objects, plates and rows answer, and the steps and calls at their greatest number. */
public final class EmptyFullTest {
    private static final int NONE = PlyPlates.NONE;
    private static final int STATE = PlyPlates.STATE;
    private static final int FULL = PlyPlates.FULL;
    private static final long NO = PlyPlates.NO;

    private EmptyFullTest() {
    }

    public static void main(String[] args) {
        emptyPlateItself();
        emptyPlateUnderLoads();
        emptyPlateAndRules();
        emptyPlateAndOthers();
        emptyAgain();
        fullStuffs();
        fullPlates();
        fullLayers();
        fullThickness();
        fullCases();
        noCases();
        fewestOverFull();
        fewestLeastAndGreatest();
        fewestLooksNoFurtherThanTen();
        determinantAtTheEdge();
        shareAtOne();
        shareAtNothing();
        stretchOfNothing();
        kindsThatBreak();
        longestBreak();
        latestBreak();
        dropAllAndNothing();
        evenAtTheEdges();
        call512();
        Checks.end();
    }

    private static void due(String call, long got, long want) {
        Checks.due(call, got, want);
    }

    private static PlyPlates plain(int... ways) {
        PlyPlates x = new PlyPlates();
        x.stuff(8, 2, 0, 1);
        x.plate();
        for (int way : ways) {
            x.lay(0, 0, way, 1);
        }
        return x;
    }

    private static int[] times(int count, int way) {
        int[] ways = new int[count];
        Arrays.fill(ways, way);
        return ways;
    }

    // ---- empty

    /** "A PLATE more, without LAYERS". */
    private static void emptyPlateItself() {
        PlyPlates x = plain();
        due("layers of an empty plate", x.count(10), 0);
        due("thickness of an empty plate", x.count(20), 0);
        due("peel STATE: there is none", x.peel(0), STATE);
        due("hurt no layer", x.hurt(0, 0, 1), NONE);
        for (int what = 0; what < 10; what++) {
            due("layer(0, 0, " + what + ")", x.layer(0, 0, what), NONE);
        }
        for (int part = 0; part < 3; part++) {
            for (int what = 0; what < 6; what++) {
                due("table of nothing", x.table(0, part, what), 0);
            }
        }
        due("nothing is tied", x.tied(0), 0);
        due("from below as from above", x.even(0), 1);
        due("determinant of nothing", x.determinant(0), 0);
    }

    /** "NO: .. DETERMINANT 0", "HOLDS a LOAD if its DETERMINANT is not 0", "NONE: none, DETERMINANT 0". */
    private static void emptyPlateUnderLoads() {
        PlyPlates x = plain();
        int[][] loads = {{0, 0, 0}, {1, 0, 0}, {100, -100, 100}};
        for (int[] n : loads) {
            for (int what = 0; what < 3; what++) {
                due("stretch of nothing", x.stretch(0, n[0], n[1], n[2], what, 0), NO);
                due("stretch of nothing, below", x.stretch(0, n[0], n[1], n[2], what, 1), NO);
                due("warm of nothing", x.warm(0, n[0], what, 0), NO);
            }
            due("nothing holds nothing", x.holds(0, n[0], n[1], n[2]), 0);
            due("nothing gives first", x.first(0, n[0], n[1], n[2]), NONE);
            due("nothing by no factor", x.factor(0, n[0], n[1], n[2], 0), NO);
            due("nothing breaks", x.breaks(0, n[0], n[1], n[2]), 0);
            due("no step", x.step(0, 0), NO);
            due("no last one", x.last(), NONE);
        }
    }

    private static void emptyPlateAndRules() {
        PlyPlates x = plain();
        due("rules at first", x.rule(0), 0);
        x.rules(1, 1, 0);
        due("neither run nor step", x.rule(0), 0);
        for (int each = 1; each <= 3; each++) {
            x.rules(1, 1, each);
            due("nothing of each", x.rule(0), 3);
        }
    }

    private static void emptyPlateAndOthers() {
        PlyPlates x = plain(0, 1, 2);
        x.plate();
        x.plate();
        due("nothing comes of some", x.comes(0, 1), 1);
        due("all of some are dropped", x.drop(0, 1), 7);
        due("some do not come of nothing", x.comes(1, 0), 0);
        due("no drop", x.drop(1, 0), NONE);
        due("nothing comes of nothing", x.comes(1, 2), 1);
        due("nothing is dropped", x.drop(1, 2), 0);
        due("nothing comes of itself", x.comes(1, 1), 1);
    }

    /** Peeled to the last layer a plate is as it was when it was new. */
    private static void emptyAgain() {
        PlyPlates x = plain(0, 1);
        x.hurt(0, 0, 2);
        x.hurt(0, 1, 1);
        due("peel one", x.peel(0), 1);
        due("peel the last", x.peel(0), 0);
        due("peel none", x.peel(0), STATE);
        due("peel none again", x.peel(0), STATE);
        due("determinant again", x.determinant(0), 0);
        due("thickness again", x.count(20), 0);
        due("lay again", x.lay(0, 0, 2, 3), 0);
        due("lay again: way", x.layer(0, 0, 1), 2);
        due("lay again: thickness", x.layer(0, 0, 2), 3);
        due("lay again: not broken", x.layer(0, 0, 3), 0);
    }

    // ---- full

    /** "STUFFS are numbered from 0 on, 3 at most". */
    private static void fullStuffs() {
        PlyPlates x = new PlyPlates();
        for (int i = 0; i < 3; i++) {
            due("stuff " + i, x.stuff(10 + i, 5, 1, 3), i);
            due("stuffs", x.count(0), i + 1);
        }
        for (int i = 0; i < 3; i++) {
            due("no fourth stuff", x.stuff(99, 5, 1, 3), FULL);
            due("three stuffs", x.count(0), 3);
        }
        x.plate();
        for (int i = 0; i < 3; i++) {
            x.lay(0, i, 0, 1);
            due("stuff " + i + " as it was", x.layer(0, i, 4), 4 * (10 + i));
        }
        due("the fourth is not there", x.strength(3, 0, 1), NONE);
    }

    /** "PLATES are numbered from 0 on, 4 at most". */
    private static void fullPlates() {
        PlyPlates x = new PlyPlates();
        x.stuff(8, 2, 0, 1);
        for (int i = 0; i < 4; i++) {
            due("plate " + i, x.plate(), i);
            due("plates", x.count(1), i + 1);
            x.lay(i, 0, i, 1 + i % 3);
        }
        for (int i = 0; i < 3; i++) {
            due("no fifth plate", x.plate(), FULL);
            due("four plates", x.count(1), 4);
        }
        for (int i = 0; i < 4; i++) {
            due("plate as it was", x.count(10 + i), 1);
            due("way as it was", x.layer(i, 0, 1), i);
        }
        due("the fifth is not there", x.peel(4), NONE);
        due("its layers are not there", x.count(14), NONE);
        due("its thickness is not there", x.count(24), NONE);
    }

    /** "LAYERS, numbered from 0 on, 12 at most". */
    private static void fullLayers() {
        PlyPlates x = plain();
        x.plate();
        for (int i = 0; i < 12; i++) {
            due("lay " + i, x.lay(0, 0, i % 4, 1), i);
            due("layers", x.count(10), i + 1);
        }
        for (int i = 0; i < 3; i++) {
            due("no thirteenth layer", x.lay(0, 0, 0, 1), FULL);
            due("twelve layers", x.count(10), 12);
        }
        due("another plate has room", x.lay(1, 0, 0, 1), 0);
        due("peel of a full one", x.peel(0), 11);
        due("room again", x.lay(0, 0, 2, 3), 11);
        due("the newest", x.layer(0, 11, 2), 3);
        due("full again", x.lay(0, 0, 0, 1), FULL);
        due("the twelfth is hurt", x.hurt(0, 11, 2), 0);
        due("a hurt one keeps its place", x.lay(0, 0, 0, 1), FULL);
        due("the thirteenth is not there", x.layer(0, 12, 0), NONE);
    }

    /** The thickest plate, its lower place being -36 and its upper one 36, of the stiffest layers. */
    private static void fullThickness() {
        PlyPlates x = new PlyPlates();
        x.stuff(200, 200, 199, 200);
        x.plate();
        for (int i = 0; i < 12; i++) {
            x.lay(0, 0, 2, 3);
        }
        due("greatest thickness", x.count(20), 36);
        due("greatest T11", x.layer(0, 11, 4), 1598);
        due("T12", x.layer(0, 11, 6), -2);
        due("T66", x.layer(0, 11, 7), 2);
        due("greatest A11", x.table(0, 0, 0), 36 * 1598);
        due("B11 of a full one", x.table(0, 1, 0), 0);
        due("greatest D11", x.table(0, 2, 0), 2L * 36 * 36 * 36 * 1598);
        due("determinant of a full one", x.determinant(0), 36L * 36 * 36 * 2 * (1598L * 1598 - 4));
        PlyPlates y = new PlyPlates();
        y.stuff(200, 1, 0, 1);
        y.plate();
        for (int i = 0; i < 12; i++) {
            y.lay(0, 0, i < 6 ? 1 : 0, 3);
        }
        due("greatest B11", y.table(0, 1, 0), 1296L * 4 * (200 - 1));
        due("least B22", y.table(0, 1, 1), -1296L * 4 * (200 - 1));
    }

    /** "CASES are numbered from 0 on, 4 at most". */
    private static void fullCases() {
        PlyPlates x = plain();
        for (int i = 0; i < 4; i++) {
            due("load " + i, x.load(i, 0, 0), i);
            due("cases", x.count(2), i + 1);
        }
        for (int i = 0; i < 3; i++) {
            due("no fifth case", x.load(100, 100, 100), FULL);
            due("four cases", x.count(2), 4);
        }
        for (int kind = 0; kind < 5; kind++) {
            x.strength(0, kind, 2);
        }
        due("the fifth is not asked for", x.fewest(0, 0), 2);
        due("all cases go", x.unload(), 4);
        due("no case", x.count(2), 0);
        for (int i = 0; i < 4; i++) {
            due("load anew " + i, x.load(100, 0, 0), i);
        }
        due("full anew", x.load(0, 0, 0), FULL);
        due("the new ones are asked for", x.fewest(0, 0), STATE);
    }

    /** Without CASES every lay holds them all. */
    private static void noCases() {
        PlyPlates x = plain();
        for (int kind = 0; kind < 5; kind++) {
            x.strength(0, kind, 1);
        }
        due("unload of none", x.unload(), 0);
        due("fewest without cases", x.fewest(0, 0), 2);
        x.load(0, 0, 0);
        due("fewest for no pull", x.fewest(0, 0), 2);
        x.load(100, 0, 0);
        due("fewest for a pull", x.fewest(0, 0), STATE);
        due("unload both", x.unload(), 2);
        due("fewest without cases again", x.fewest(0, 0), 2);
    }

    // ---- the fewest

    /** "THE FEWEST becomes the LAYERS of a PLATE, in place of its own". */
    private static void fewestOverFull() {
        PlyPlates x = plain(times(12, 3));
        for (int i = 0; i < 12; i++) {
            x.hurt(0, i, 1 + i % 2);
        }
        due("fewest on a full plate", x.fewest(0, 0), 2);
        due("two layers", x.count(10), 2);
        due("thickness of two", x.count(20), 2);
        due("the third is gone", x.layer(0, 2, 0), NONE);
        for (int i = 0; i < 2; i++) {
            due("the way of both", x.layer(0, i, 1), 0);
            due("neither is broken", x.layer(0, i, 3), 0);
        }
        due("lay on it", x.lay(0, 0, 3, 1), 2);
        due("laid on it, whole", x.layer(0, 2, 3), 0);
        due("on an empty plate", x.plate(), 1);
        due("fewest on an empty plate", x.fewest(1, 0), 2);
    }

    /** "2, 4, .. 10 LAYERS": a pull of 100 on so many layers that bear 100 / n each. */
    private static void fewestLeastAndGreatest() {
        int[] least = {50, 25, 17, 13, 10};
        for (int i = 0; i < 5; i++) {
            PlyPlates x = plain();
            for (int kind = 1; kind < 5; kind++) {
                x.strength(0, kind, 1);
            }
            x.load(100, 0, 0);
            x.strength(0, 0, least[i]);
            due("fewest " + (2 * i + 2), x.fewest(0, 0), 2 * i + 2);
            x.strength(0, 0, least[i] - 1);
            due("a little weaker", x.fewest(0, 0), i == 4 ? STATE : 2 * i + 4);
        }
    }

    /** Twelve layers would do, but no lay of more than ten is looked at. */
    private static void fewestLooksNoFurtherThanTen() {
        PlyPlates x = plain(times(12, 0));
        for (int kind = 1; kind < 5; kind++) {
            x.strength(0, kind, 1);
        }
        x.strength(0, 0, 9);
        x.load(100, 0, 0);
        due("twelve hold it", x.holds(0, 100, 0, 0), 1);
        due("but are not found", x.fewest(0, 0), STATE);
        due("the plate as it was", x.count(10), 12);
        PlyPlates y = plain(0, 2, 1, 3, 0, 2, 1, 3, 0, 2, 1, 3);
        y.rules(12, 0, 3);
        due("twelve keep the rules", y.rule(0), 0);
        due("none of ten does", y.fewest(0, 0), STATE);
        y.rules(12, 0, 2);
        due("eight have two of each", y.fewest(0, 0), 8);
        y.rules(2, 0, 0);
        due("a run of two in the middle", y.fewest(0, 0), 2);
        y.rules(1, 0, 0);
        due("the two in the middle lie one way", y.fewest(0, 0), STATE);
    }

    // ---- shares, stretch and determinant at their edges

    /** "there is one if the DETERMINANT of A's nine numbers is not 0": it takes fibres of three ways. */
    private static void determinantAtTheEdge() {
        for (int a = 0; a < 4; a++) {
            for (int b = 0; b < 4; b++) {
                PlyPlates x = plain(a, b);
                x.hurt(0, 0, 1);
                due("one whole layer is enough", x.stretch(0, 1, 1, 1, 0, 1) > 0 ? 1 : 0, 1);
                x.hurt(0, 1, 1);
                due("two ways of fibres: determinant", x.determinant(0), 0);
                due("two ways of fibres: stretch", x.stretch(0, 1, 1, 1, 0, 0), NO);
                due("two ways of fibres: warm", x.warm(0, 1, 0, 0), NO);
                due("two ways of fibres: holds", x.holds(0, 0, 0, 0), 0);
                due("two ways of fibres: first", x.first(0, 1, 1, 1), NONE);
                due("two ways of fibres: factor", x.factor(0, 1, 1, 1, 0), NO);
                due("two ways of fibres: breaks", x.breaks(0, 1, 1, 1), 0);
            }
        }
        for (int missing = 0; missing < 4; missing++) {
            PlyPlates x = plain();
            for (int i = 1; i < 4; i++) {
                x.lay(0, 0, (missing + i) % 4, 1);
                x.hurt(0, i - 1, 1);
            }
            due("three ways of fibres: above 0", x.determinant(0) > 0 ? 1 : 0, 1);
            due("three ways of fibres: hold", x.holds(0, 1, 1, 1), 1);
            x.hurt(0, 2, 2);
            due("one of them goes", x.determinant(0), 0);
        }
    }

    /** "no SHARE is above 1": one of just 1 is held, and one that is above it by the least that can be is not. */
    private static void shareAtOne() {
        PlyPlates x = plain(0);
        for (int v = 1; v < 100; v++) {
            x.strength(0, 0, v);
            due("holds as much as its strength", x.holds(0, v, 0, 0), 1);
            due("holds no more", x.holds(0, v + 1, 0, 0), 0);
            due("factor 1 above", x.factor(0, v, 0, 0, 0), 1);
            due("factor 1 below", x.factor(0, v, 0, 0, 1), 1);
        }
        PlyPlates y = new PlyPlates();
        y.stuff(199, 7, 0, 1);
        y.plate();
        y.lay(0, 0, 0, 3);
        y.lay(0, 0, 1, 1);
        // 604 ex = nx; the one along has 199 ex.
        y.strength(0, 0, 33);
        due("a share of 19900 by 19932", y.holds(0, 100, 0, 0), 1);
        y.strength(0, 0, 32);
        due("a share of 19900 by 19328", y.holds(0, 100, 0, 0), 0);
    }

    /** "if s1 is above 0", "below 0": what has no stress has no share of either kind. */
    private static void shareAtNothing() {
        PlyPlates x = plain(0);
        for (int kind = 0; kind < 4; kind++) {
            x.strength(0, kind, 1);
        }
        due("shear alone", x.first(0, 0, 0, 1), 4);
        x.strength(0, 4, 1000);
        due("shear alone, though strong", x.first(0, 0, 0, 1), 4);
        due("its factor", x.factor(0, 0, 0, 1, 0), 1000);
        due("nothing under no pull", x.first(0, 0, 0, 0), NONE);
        due("no factor under no pull", x.factor(0, 0, 0, 0, 0), NO);
        due("no step under no pull", x.breaks(0, 0, 0, 0), 0);
        due("held under no pull", x.holds(0, 0, 0, 0), 1);
    }

    /** "without a common divisor, below above 0 (0 is 0 by 1)". */
    private static void stretchOfNothing() {
        for (int way = 0; way < 4; way++) {
            PlyPlates x = plain(way);
            x.growth(0, 5, -5);
            for (int what = 0; what < 3; what++) {
                due("0 above", x.stretch(0, 0, 0, 0, what, 0), 0);
                due("1 below", x.stretch(0, 0, 0, 0, what, 1), 1);
                due("not warm: 0 above", x.warm(0, 0, what, 0), 0);
                due("not warm: 1 below", x.warm(0, 0, what, 1), 1);
            }
        }
        PlyPlates x = plain(0);
        due("below stays above 0", x.stretch(0, -100, 0, 0, 0, 1), 2);
        due("above is below 0", x.stretch(0, -100, 0, 0, 0, 0), -25);
    }

    // ---- the break

    /** "KINDS 0, 1: ALL; 2, 3, 4: ACROSS": what comes then is what a plate that was hurt so would have come to. */
    private static void kindsThatBreak() {
        int[][] loads = {{20, 3, 2}, {-20, 3, 2}, {2, 20, 3}, {2, -20, 3}, {2, 3, 20}};
        for (int kind = 0; kind < 5; kind++) {
            int[] n = loads[kind];
            PlyPlates x = plain(0);
            x.stuff(8, 2, 0, 1);
            x.lay(0, 1, 0, 1);
            for (int k = 0; k < 5; k++) {
                x.strength(0, k, k == kind ? 1 : 100);
            }
            int steps = x.breaks(0, n[0], n[1], n[2]);
            due("first gives by kind " + kind, x.step(0, 0), kind);
            long then = x.step(1, 0);
            long above = x.step(1, 1);
            long below = x.step(1, 2);
            x.hurt(0, 0, kind < 2 ? 2 : 1);
            due("what gives then", then, x.first(0, n[0], n[1], n[2]));
            due("its factor", above, x.factor(0, n[0], n[1], n[2], 0));
            due("its factor, below", below, x.factor(0, n[0], n[1], n[2], 1));
            due("steps from there", x.breaks(0, n[0], n[1], n[2]), steps - 1);
        }
    }

    /**
     * As many steps as there can be: eleven layers tear across, then along, beside one that holds them to the end and
     * then takes all with it.
     */
    private static void longestBreak() {
        PlyPlates x = plain();
        x.stuff(1, 1, 0, 1);
        x.stuff(200, 200, 0, 200);
        x.strength(1, 0, 2);
        x.strength(1, 2, 1);
        for (int kind = 0; kind < 5; kind++) {
            x.strength(2, kind, 1000);
        }
        for (int i = 0; i < 12; i++) {
            x.lay(0, i < 11 ? 1 : 2, 0, 1);
        }
        due("the longest break", x.breaks(0, 100, 100, 0), 23);
        for (int i = 0; i < 11; i++) {
            dueStep(x, i, 10 * i + 2, 211 - i, 100);
            dueStep(x, 11 + i, 10 * i, 211 - i, 50);
        }
        dueStep(x, 22, 110, 10, 1);
        due("no step behind it", x.step(23, 0), NO);
        due("the last one bears most", x.last(), 22);
        for (int i = 0; i < 12; i++) {
            due("the plate is as it was", x.layer(0, i, 3), 0);
        }
    }

    /** A step's factor as a fraction that need not be told in its least terms here. */
    private static void dueStep(PlyPlates x, int i, int place, long above, long below) {
        due("step(" + i + ", 0)", x.step(i, 0), place);
        due("step(" + i + "), factor", x.step(i, 1) * below, x.step(i, 2) * above);
        BigInteger factorAbove = BigInteger.valueOf(x.step(i, 1));
        due("step(" + i + "), common divisor", factorAbove.gcd(BigInteger.valueOf(x.step(i, 2))).longValue(), 1);
        due("step(" + i + "), below above 0", x.step(i, 2) > 0 ? 1 : 0, 1);
    }

    /** "the latest THE BREAK": none at first, a shorter one leaves nothing of a longer one, a refused one is none. */
    private static void latestBreak() {
        PlyPlates x = plain(0, 1);
        x.strength(0, 2, 10);
        due("no step at first", x.step(0, 0), NO);
        due("no last at first", x.last(), NONE);
        due("two steps", x.breaks(0, 10, 0, 0), 2);
        due("the last of two", x.last(), 1);
        x.plate();
        x.lay(1, 0, 0, 1);
        due("one step", x.breaks(1, 10, 0, 0), 1);
        due("the second is gone", x.step(1, 0), NO);
        due("the last of one", x.last(), 0);
        due("refused", x.breaks(2, 10, 0, 0), NONE);
        due("refused by the load", x.breaks(0, 101, 0, 0), PlyPlates.BAD);
        due("the first is there", x.step(0, 0), 0);
        x.fewest(1, 0);
        x.unload();
        x.first(0, 10, 0, 0);
        x.factor(0, 10, 0, 0, 0);
        x.holds(0, 10, 0, 0);
        due("no other call makes a break", x.last(), 0);
        due("a break without a step", x.breaks(0, 0, 0, 0), 0);
        due("its first step", x.step(0, 0), NO);
        due("its last step", x.last(), NONE);
    }

    // ---- lays that come of others, and even ones

    /** "the DROP .. as bits": none, all twelve, the lowest and the uppermost. */
    private static void dropAllAndNothing() {
        PlyPlates x = plain(times(12, 1));
        x.plate();
        due("all twelve", x.drop(0, 1), 4095);
        x.lay(1, 0, 1, 1);
        due("all but the lowest", x.drop(0, 1), 4094);
        for (int i = 1; i < 12; i++) {
            x.lay(1, 0, 1, 1);
        }
        due("nothing", x.drop(0, 1), 0);
        due("nothing, the other way round", x.drop(1, 0), 0);
        x.peel(0);
        due("a longer one does not come", x.comes(0, 1), 0);
        due("no drop of a longer one", x.drop(0, 1), NONE);
        due("the uppermost", x.drop(1, 0), 2048);
        PlyPlates y = plain(0, 0, 0, 0, 0, 0, 0, 0, 0, 0, 0, 1);
        y.plate();
        y.lay(1, 0, 1, 1);
        due("all but the uppermost", y.drop(0, 1), 2047);
        y.lay(1, 0, 0, 1);
        due("nothing lies on the uppermost", y.drop(0, 1), NONE);
    }

    /** "the same (STUFF, WAY, thickness, BROKEN) from below as from above": none, one, and twelve. */
    private static void evenAtTheEdges() {
        due("one", plain(3).even(0), 1);
        PlyPlates x = plain(0, 1, 2, 3, 0, 1, 1, 0, 3, 2, 1, 0);
        due("twelve", x.even(0), 1);
        for (int i = 0; i < 12; i++) {
            x.hurt(0, i, 1);
            due("twelve with one hurt", x.even(0), 0);
            x.hurt(0, 11 - i, 1);
            due("twelve with two hurt", x.even(0), 1);
            x.hurt(0, 11 - i, 2);
            due("twelve with two hurt otherwise", x.even(0), 0);
            x.hurt(0, i, 0);
            x.hurt(0, 11 - i, 0);
        }
        due("eleven of them", x.peel(0) * 10 + x.even(0), 110);
        PlyPlates odd = plain(0, 1, 2, 3, 0, 3, 0, 3, 2, 1, 0);
        due("eleven", odd.even(0), 1);
        odd.hurt(0, 5, 2);
        due("eleven with the middle one hurt", odd.even(0), 1);
    }

    // ---- calls

    /** "An object is used for at most 512 calls": up to the last of them it answers as it did at first. */
    private static void call512() {
        PlyPlates x = new PlyPlates();
        x.stuff(8, 2, 0, 1);
        x.plate();
        x.strength(0, 2, 10);
        x.lay(0, 0, 0, 1);
        x.lay(0, 0, 1, 1);
        for (int i = 0; i < 250; i++) {
            due("lay, time " + i, x.lay(0, 0, i % 4, 1 + i % 3), 2);
            due("peel, time " + i, x.peel(0), 2);
        }
        due("call 506", x.breaks(0, 10, 0, 0), 2);
        due("call 507", x.step(1, 0), 0);
        due("call 508", x.last(), 1);
        due("call 509", x.load(10, 0, 0), 0);
        due("call 510", x.plate(), 1);
        due("call 511", x.fewest(1, 0), 2);
        due("call 512", x.count(11), 2);
        PlyPlates y = plain();
        y.rules(12, 0, 3);
        for (int i = 0; i < 509; i++) {
            due("a long search, time " + i, y.fewest(0, 0), STATE);
        }
    }
}
