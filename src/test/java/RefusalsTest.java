import java.util.ArrayList;
import java.util.List;
import java.util.function.Supplier;
import java.util.function.ToLongFunction;

/**
 * "REFUSALS, of several the first one told .. They change nothing." Each refused call is made on an object, and what
 * that object answers then to a long row of calls is what its twin answers that was made alike and never refused.
 */
public final class RefusalsTest {
    private static final int NONE = PlyPlates.NONE;
    private static final int BAD = PlyPlates.BAD;
    private static final int STATE = PlyPlates.STATE;
    private static final int FULL = PlyPlates.FULL;
    private static final long NO = PlyPlates.NO;
    private static final int LEAST = Integer.MIN_VALUE;
    private static final int GREATEST = Integer.MAX_VALUE;

    /** What the probe of the twin that was never refused answers. */
    private static List<Long> twin = List.of();
    private static Supplier<PlyPlates> maker = PlyPlates::new;
    private static String where = "";

    private RefusalsTest() {
    }

    public static void main(String[] args) {
        on("new", PlyPlates::new);
        onNew();
        on("some", RefusalsTest::some);
        onSome();
        onSomeAsking();
        onSomeTwice();
        on("full", RefusalsTest::full);
        onFull();
        onFullTwice();
        probeSeesChanges();
        Checks.end();
    }

    /** One stuff, two plates (the second one empty), one case, and neither rules nor a break. */
    private static PlyPlates some() {
        PlyPlates x = new PlyPlates();
        x.stuff(30, 8, 2, 5);
        x.strength(0, 2, 40);
        x.growth(0, 3, -4);
        x.plate();
        x.plate();
        x.lay(0, 0, 0, 1);
        x.lay(0, 0, 2, 2);
        x.hurt(0, 1, 1);
        x.load(30, 20, 10);
        return x;
    }

    /** Full of stuffs, plates and cases; plate 0 is full, 1 has a break, 2 is empty, 3 has a determinant of 0. */
    private static PlyPlates full() {
        PlyPlates x = new PlyPlates();
        x.stuff(30, 8, 2, 5);
        x.stuff(140, 10, 3, 5);
        x.stuff(9, 9, 0, 200);
        for (int i = 0; i < 15; i++) {
            x.strength(i / 5, i % 5, 20 + 13 * i);
        }
        for (int i = 0; i < 3; i++) {
            x.growth(i, i - 1, 20 - i);
        }
        for (int i = 0; i < 4; i++) {
            x.plate();
        }
        for (int i = 0; i < 12; i++) {
            x.lay(0, i % 3, i % 4, 1 + i % 3);
        }
        x.lay(1, 1, 0, 1);
        x.lay(1, 1, 2, 2);
        x.lay(1, 0, 1, 1);
        x.lay(3, 0, 1, 3);
        x.hurt(0, 5, 1);
        x.hurt(3, 0, 2);
        x.load(30, 20, 10);
        x.load(-30, 0, 0);
        x.load(0, -25, 5);
        x.load(0, 0, -15);
        x.rules(2, 1, 1);
        x.breaks(1, 50, -20, 10);
        return x;
    }

    private static void on(String name, Supplier<PlyPlates> made) {
        where = name + ": ";
        maker = made;
        twin = probe(made.get());
    }

    private static void refused(String call, long want, ToLongFunction<PlyPlates> made) {
        PlyPlates x = maker.get();
        Checks.due(where + call, made.applyAsLong(x), want);
        Checks.due(where + call + " again", made.applyAsLong(x), want);
        Checks.dueTrue(where + call + " changes nothing", probe(x).equals(twin));
    }

    // ---- a long row of calls whose answers tell all that an object holds

    private static List<Long> probe(PlyPlates x) {
        List<Long> told = new ArrayList<>();
        for (int what = 0; what < 30; what++) {
            told.add((long) x.count(what));
        }
        for (int p = 0; p < 4; p++) {
            for (int i = 0; i < x.count(10 + p); i++) {
                for (int what = 0; what < 4; what++) {
                    told.add((long) x.layer(p, i, what));
                }
            }
        }
        told.add((long) x.last());
        for (int i = 0; x.step(i, 0) != NO; i++) {
            told.add(x.step(i, 0));
            told.add(x.step(i, 1));
            told.add(x.step(i, 2));
        }
        probeRules(x, told);
        probeStuffs(x, told);
        probeCases(x, told);
        told.add((long) x.stuff(1, 1, 0, 1));
        told.add((long) x.plate());
        told.add((long) x.load(0, 0, 0));
        told.add((long) x.unload());
        return told;
    }

    private static void clear(PlyPlates x, int plate) {
        for (int i = x.count(10 + plate); i > 0; i--) {
            x.peel(plate);
        }
    }

    /** A run that grows to twelve, then a step, then rounds of all ways: where each rule begins to speak. */
    private static void probeRules(PlyPlates x, List<Long> told) {
        clear(x, 0);
        for (int i = 0; i < 12; i++) {
            x.lay(0, 0, 2, 1);
            told.add((long) x.rule(0));
        }
        clear(x, 0);
        for (int way : new int[] {0, 1}) {
            x.lay(0, 0, way, 1);
            told.add((long) x.rule(0));
        }
        clear(x, 0);
        for (int i = 0; i < 12; i++) {
            x.lay(0, 0, new int[] {0, 2, 1, 3}[i % 4], 1);
            told.add((long) x.rule(0));
        }
    }

    /** A layer alone grows as its stuff does, and shows its stiffness. */
    private static void probeStuffs(PlyPlates x, List<Long> told) {
        for (int s = 0; s < x.count(0); s++) {
            clear(x, 0);
            x.lay(0, s, 0, 1);
            told.add(x.warm(0, 1, 0, 0));
            told.add(x.warm(0, 1, 1, 0));
            for (int what = 4; what < 8; what++) {
                told.add((long) x.layer(0, 0, what));
            }
            for (int kind = 0; kind < 5; kind++) {
                told.add((long) x.strength(s, kind, 1000));
            }
        }
    }

    /** How many layers it takes to hold the cases, while one strength after another is lessened. */
    private static void probeCases(PlyPlates x, List<Long> told) {
        x.rules(12, 0, 0);
        for (int kind = 0; kind < 5; kind++) {
            for (int v = 1; v <= 4; v++) {
                x.strength(0, kind, 1 + v);
                told.add((long) x.fewest(0, 0));
                told.add((long) x.layer(0, 0, 1));
            }
            x.strength(0, kind, 1000);
        }
    }

    /** Were the probe blind, no change would be found: each change that a call can make is seen by it. */
    private static void probeSeesChanges() {
        on("full", RefusalsTest::full);
        seen("strength", x -> x.strength(2, 4, 1));
        seen("growth", x -> x.growth(1, 1, 1));
        seen("peel", x -> x.peel(0));
        seen("hurt", x -> x.hurt(0, 11, 1));
        seen("lay", x -> x.lay(2, 0, 0, 1));
        seen("breaks", x -> x.breaks(1, 50, -20, 11));
        seen("rules, run", x -> x.rules(3, 1, 1));
        seen("rules, step", x -> x.rules(2, 0, 1));
        seen("rules, each", x -> x.rules(2, 1, 2));
        seen("unload", x -> x.unload());
        seen("a case otherwise", x -> x.unload() + x.load(30, 20, 10) + x.load(-30, 0, 0) + x.load(0, -25, 5)
            + x.load(0, 0, -18));
        seen("fewest", x -> x.rules(12, 0, 0) + x.fewest(2, 1));
        on("some", RefusalsTest::some);
        seen("stuff", x -> x.stuff(1, 1, 0, 1));
        seen("plate", x -> x.plate());
        seen("load", x -> x.load(0, 0, 0));
    }

    private static void seen(String call, ToLongFunction<PlyPlates> made) {
        PlyPlates x = maker.get();
        made.applyAsLong(x);
        Checks.dueTrue(where + call + " is seen", !probe(x).equals(twin));
    }

    // ---- the refusals

    /** Of a new object nothing is there to be asked. */
    private static void onNew() {
        refused("stuff BAD", BAD, x -> x.stuff(0, 1, 0, 1));
        refused("strength NONE", NONE, x -> x.strength(0, 0, 1));
        refused("strength NONE, BAD", NONE, x -> x.strength(0, 5, 0));
        refused("growth NONE", NONE, x -> x.growth(0, 0, 0));
        refused("growth NONE, BAD", NONE, x -> x.growth(0, 21, 21));
        refused("lay NONE", NONE, x -> x.lay(0, 0, 0, 1));
        refused("peel NONE", NONE, x -> x.peel(0));
        refused("hurt NONE", NONE, x -> x.hurt(0, 0, 0));
        refused("layer NONE", NONE, x -> x.layer(0, 0, 0));
        refused("table NO", NO, x -> x.table(0, 0, 0));
        refused("tied NONE", NONE, x -> x.tied(0));
        refused("even NONE", NONE, x -> x.even(0));
        refused("determinant NO", NO, x -> x.determinant(0));
        refused("stretch NO", NO, x -> x.stretch(0, 0, 0, 0, 0, 0));
        refused("warm NO", NO, x -> x.warm(0, 0, 0, 0));
        refused("holds NONE", NONE, x -> x.holds(0, 0, 0, 0));
        refused("holds NONE, BAD", NONE, x -> x.holds(0, 101, 0, 0));
        refused("first NONE", NONE, x -> x.first(0, 0, 0, 0));
        refused("first NONE, BAD", NONE, x -> x.first(0, 101, 0, 0));
        refused("factor NO", NO, x -> x.factor(0, 1, 0, 0, 0));
        refused("breaks NONE", NONE, x -> x.breaks(0, 1, 0, 0));
        refused("breaks NONE, BAD", NONE, x -> x.breaks(0, 101, 0, 0));
        refused("step NO", NO, x -> x.step(0, 0));
        refused("last NONE", NONE, PlyPlates::last);
        refused("rules BAD", BAD, x -> x.rules(0, 1, 3));
        refused("rule NONE", NONE, x -> x.rule(0));
        refused("load BAD", BAD, x -> x.load(0, 0, 101));
        refused("unload of none", 0, PlyPlates::unload);
        refused("fewest NONE", NONE, x -> x.fewest(0, 0));
        refused("comes NONE", NONE, x -> x.comes(0, 0));
        refused("drop NONE", NONE, x -> x.drop(0, 0));
        refused("count NONE", NONE, x -> x.count(10));
    }

    private static void onSome() {
        for (int v : new int[] {0, 201, LEAST, GREATEST}) {
            refused("stuff Q11 " + v, BAD, x -> x.stuff(v, 10, 0, 10));
            refused("stuff Q22 " + v, BAD, x -> x.stuff(10, v, 0, 10));
            refused("stuff Q66 " + v, BAD, x -> x.stuff(10, 10, 0, v));
        }
        for (int v : new int[] {-1, 10, 201, LEAST, GREATEST}) {
            refused("stuff Q12 " + v, BAD, x -> x.stuff(10, 10, v, 10));
        }
        for (int s : new int[] {-1, 1, LEAST, GREATEST}) {
            refused("strength of stuff " + s, NONE, x -> x.strength(s, 0, 7));
            refused("growth of stuff " + s, NONE, x -> x.growth(s, 7, 7));
            refused("lay stuff " + s, NONE, x -> x.lay(0, s, 0, 1));
            refused("fewest of stuff " + s, NONE, x -> x.fewest(0, s));
        }
        for (int v : new int[] {0, 1001, LEAST, GREATEST}) {
            refused("strength " + v, BAD, x -> x.strength(0, 2, v));
        }
        for (int k : new int[] {-1, 5, LEAST, GREATEST}) {
            refused("strength of kind " + k, BAD, x -> x.strength(0, k, 7));
        }
        for (int v : new int[] {-21, 21, LEAST, GREATEST}) {
            refused("growth along " + v, BAD, x -> x.growth(0, v, 7));
            refused("growth across " + v, BAD, x -> x.growth(0, 7, v));
        }
        for (int w : new int[] {-1, 4, LEAST, GREATEST}) {
            refused("lay way " + w, NONE, x -> x.lay(0, 0, w, 1));
        }
        for (int t : new int[] {0, 4, LEAST, GREATEST}) {
            refused("lay thickness " + t, BAD, x -> x.lay(0, 0, 0, t));
        }
        for (int l : new int[] {-1, 2, LEAST, GREATEST}) {
            refused("hurt layer " + l, NONE, x -> x.hurt(0, l, 2));
            refused("layer " + l, NONE, x -> x.layer(0, l, 0));
        }
        for (int h : new int[] {-1, 3, LEAST, GREATEST}) {
            refused("hurt so " + h, BAD, x -> x.hurt(0, 1, h));
        }
        for (int r : new int[] {0, 13, LEAST, GREATEST}) {
            refused("rules run " + r, BAD, x -> x.rules(r, 1, 2));
        }
        for (int e : new int[] {-1, 4, LEAST, GREATEST}) {
            refused("rules each " + e, BAD, x -> x.rules(3, 1, e));
        }
        refused("peel STATE", STATE, x -> x.peel(1));
        refused("hurt a layer of an empty plate", NONE, x -> x.hurt(1, 0, 1));
    }

    private static void onSomeAsking() {
        for (int p : new int[] {-1, 2, LEAST, GREATEST}) {
            refused("lay on plate " + p, NONE, x -> x.lay(p, 0, 0, 1));
            refused("peel plate " + p, NONE, x -> x.peel(p));
            refused("hurt on plate " + p, NONE, x -> x.hurt(p, 0, 1));
            refused("breaks plate " + p, NONE, x -> x.breaks(p, 1, 0, 0));
            refused("fewest on plate " + p, NONE, x -> x.fewest(p, 0));
            refused("comes a " + p, NONE, x -> x.comes(p, 0));
            refused("comes b " + p, NONE, x -> x.comes(0, p));
            refused("drop a " + p, NONE, x -> x.drop(p, 0));
            refused("drop b " + p, NONE, x -> x.drop(0, p));
        }
        for (int n : new int[] {-101, 101, LEAST, GREATEST}) {
            refused("load nx " + n, BAD, x -> x.load(n, 1, 1));
            refused("load ny " + n, BAD, x -> x.load(1, n, 1));
            refused("load ns " + n, BAD, x -> x.load(1, 1, n));
            refused("breaks nx " + n, BAD, x -> x.breaks(0, n, 1, 1));
            refused("breaks ny " + n, BAD, x -> x.breaks(0, 1, n, 1));
            refused("breaks ns " + n, BAD, x -> x.breaks(0, 1, 1, n));
            refused("first nx " + n, BAD, x -> x.first(0, n, 1, 1));
            refused("holds nx " + n, BAD, x -> x.holds(0, n, 1, 1));
            refused("stretch nx " + n, NO, x -> x.stretch(0, n, 1, 1, 0, 0));
            refused("factor nx " + n, NO, x -> x.factor(0, n, 1, 1, 0));
            refused("warm by " + n, NO, x -> x.warm(0, n, 0, 0));
        }
        refused("drop: it does not", NONE, x -> x.drop(1, 0));
    }

    /** Calls that two refusals fit, while there is room. */
    private static void onSomeTwice() {
        refused("strength NONE, kind", NONE, x -> x.strength(1, 5, 7));
        refused("strength NONE, v", NONE, x -> x.strength(1, 0, 0));
        refused("strength kind, v", BAD, x -> x.strength(0, 5, 0));
        refused("growth NONE, along", NONE, x -> x.growth(1, 21, 0));
        refused("growth NONE, across", NONE, x -> x.growth(-1, 0, -21));
        refused("lay no plate, thickness", NONE, x -> x.lay(2, 0, 0, 4));
        refused("lay no stuff, thickness", NONE, x -> x.lay(0, 1, 0, 0));
        refused("lay no way, thickness", NONE, x -> x.lay(0, 0, 4, 4));
        refused("lay nothing as told", NONE, x -> x.lay(LEAST, LEAST, LEAST, LEAST));
        refused("hurt no plate, how", NONE, x -> x.hurt(2, 0, 3));
        refused("hurt no layer, how", NONE, x -> x.hurt(0, 2, -1));
        refused("hurt no layer of an empty plate, how", NONE, x -> x.hurt(1, 0, 3));
        refused("holds no plate, load", NONE, x -> x.holds(2, 0, 101, 0));
        refused("first no plate, load", NONE, x -> x.first(2, 0, 101, 0));
        refused("first DETERMINANT 0, load", NONE, x -> x.first(1, 0, 101, 0));
        refused("breaks no plate, load", NONE, x -> x.breaks(2, 0, 0, -101));
        refused("breaks of an empty plate, load", BAD, x -> x.breaks(1, 0, 0, -101));
        refused("holds of an empty plate, load", BAD, x -> x.holds(1, 0, 0, -101));
        refused("fewest no plate, no stuff", NONE, x -> x.fewest(2, 1));
        refused("comes no plates", NONE, x -> x.comes(2, -1));
        refused("drop no plate, it does not", NONE, x -> x.drop(1, 2));
        refused("rules run, each", BAD, x -> x.rules(13, 1, 4));
        refused("stretch DETERMINANT 0, load", NO, x -> x.stretch(1, 101, 0, 0, 0, 0));
    }

    /** Whatever is full stays as it is. */
    private static void onFull() {
        refused("stuff FULL", FULL, x -> x.stuff(1, 1, 0, 1));
        refused("plate FULL", FULL, PlyPlates::plate);
        refused("lay FULL", FULL, x -> x.lay(0, 0, 0, 1));
        refused("load FULL", FULL, x -> x.load(0, 0, 0));
        refused("peel STATE", STATE, x -> x.peel(2));
        for (int p = 0; p < 4; p++) {
            int plate = p;
            // Rules that no lay keeps: twelve layers would be the fewest.
            refused("fewest STATE on " + p, STATE, x -> withRules(x, 12, 3, () -> x.fewest(plate, 1)));
            refused("fewest STATE by RUN on " + p, STATE, x -> withRules(x, 1, 0, () -> x.fewest(plate, 0)));
        }
        refused("breaks NONE", NONE, x -> x.breaks(4, 1, 1, 1));
        refused("breaks BAD", BAD, x -> x.breaks(0, 1, 1, 101));
        refused("rules BAD", BAD, x -> x.rules(0, 0, 0));
        refused("rules BAD by each", BAD, x -> x.rules(12, 0, 4));
        refused("hurt BAD", BAD, x -> x.hurt(0, 11, 3));
        refused("hurt NONE", NONE, x -> x.hurt(0, 12, 1));
        refused("drop NONE", NONE, x -> x.drop(1, 0));
    }

    /** With other rules for one call, and those of the full object behind it. */
    private static long withRules(PlyPlates x, int run, int each, Supplier<Integer> call) {
        x.rules(run, 0, each);
        long answer = call.get();
        x.rules(2, 1, 1);
        return answer;
    }

    /** Calls that two refusals fit, one of which is FULL or STATE. */
    private static void onFullTwice() {
        refused("stuff BAD, FULL", BAD, x -> x.stuff(1, 1, 1, 1));
        refused("lay no plate, FULL", NONE, x -> x.lay(4, 0, 0, 1));
        refused("lay no stuff, FULL", NONE, x -> x.lay(0, 3, 0, 1));
        refused("lay no way, FULL", NONE, x -> x.lay(0, 0, 4, 1));
        refused("lay thickness, FULL", BAD, x -> x.lay(0, 0, 0, 4));
        refused("lay no way, thickness, FULL", NONE, x -> x.lay(0, 0, -1, 0));
        refused("load BAD, FULL", BAD, x -> x.load(0, -101, 0));
        refused("first DETERMINANT 0, load", NONE, x -> x.first(3, 101, 0, 0));
        refused("first of an empty plate, load", NONE, x -> x.first(2, 0, 0, GREATEST));
        refused("holds DETERMINANT 0, load", BAD, x -> x.holds(3, 101, 0, 0));
        refused("breaks DETERMINANT 0, load", BAD, x -> x.breaks(3, 101, 0, 0));
        refused("fewest no stuff, no such lay", NONE, x -> withRules(x, 1, 3, () -> x.fewest(0, 3)));
        refused("fewest no plate, no such lay", NONE, x -> withRules(x, 1, 3, () -> x.fewest(4, 0)));
        refused("drop no plate, it does not", NONE, x -> x.drop(2, 4));
    }
}
