import java.util.ArrayList;
import java.util.List;

/**
 * The document told again in the plainest way, with fractions without a bound, lists that are made anew and a search
 * through every lay: slow, and without any code of the class, so that the two can be held against one another. It reads
 * the document as the class does, so it finds slips of reckoning, not of reading.
 */
final class Model {
    static final int NONE = -1;
    static final int BAD = -2;
    static final int STATE = -3;
    static final int FULL = -4;
    static final long NO = Long.MIN_VALUE;

    record Layer(int stuff, int way, int thick, int broken) {
    }

    record Step(int place, Ratio factor) {
    }

    static final class Stuff {
        int q11;
        int q22;
        int q12;
        int q66;
        int[] strength = {100, 100, 100, 100, 100};
        int a1;
        int a2;
    }

    private final List<Stuff> stuffs = new ArrayList<>();
    private final List<List<Layer>> plates = new ArrayList<>();
    private final List<int[]> cases = new ArrayList<>();
    private List<Step> steps = new ArrayList<>();
    private int run = 12;
    private boolean stepRule = false;
    private int each = 0;

    private static boolean in(int v, int least, int most) {
        return least <= v && v <= most;
    }

    private boolean hasStuff(int i) {
        return in(i, 0, stuffs.size() - 1);
    }

    private boolean hasPlate(int i) {
        return in(i, 0, plates.size() - 1);
    }

    private static boolean isLoad(int x, int y, int s) {
        return in(x, -100, 100) && in(y, -100, 100) && in(s, -100, 100);
    }

    int stuff(int q11, int q22, int q12, int q66) {
        if (!in(q11, 1, 200) || !in(q22, 1, 200) || !in(q66, 1, 200) || !in(q12, 0, 200) || q12 * q12 >= q11 * q22) {
            return BAD;
        }
        if (stuffs.size() == 3) {
            return FULL;
        }
        Stuff s = new Stuff();
        s.q11 = q11;
        s.q22 = q22;
        s.q12 = q12;
        s.q66 = q66;
        stuffs.add(s);
        return stuffs.size() - 1;
    }

    int strength(int stuff, int kind, int v) {
        if (!hasStuff(stuff)) {
            return NONE;
        }
        if (!in(kind, 0, 4) || !in(v, 1, 1000)) {
            return BAD;
        }
        int was = stuffs.get(stuff).strength[kind];
        stuffs.get(stuff).strength[kind] = v;
        return was;
    }

    int growth(int stuff, int along, int across) {
        if (!hasStuff(stuff)) {
            return NONE;
        }
        if (!in(along, -20, 20) || !in(across, -20, 20)) {
            return BAD;
        }
        stuffs.get(stuff).a1 = along;
        stuffs.get(stuff).a2 = across;
        return 0;
    }

    int plate() {
        if (plates.size() == 4) {
            return FULL;
        }
        plates.add(new ArrayList<>());
        return plates.size() - 1;
    }

    int lay(int plate, int stuff, int way, int thick) {
        if (!hasPlate(plate) || !hasStuff(stuff) || !in(way, 0, 3)) {
            return NONE;
        }
        if (!in(thick, 1, 3)) {
            return BAD;
        }
        List<Layer> p = plates.get(plate);
        if (p.size() == 12) {
            return FULL;
        }
        p.add(new Layer(stuff, way, thick, 0));
        return p.size() - 1;
    }

    int peel(int plate) {
        if (!hasPlate(plate)) {
            return NONE;
        }
        List<Layer> p = plates.get(plate);
        if (p.isEmpty()) {
            return STATE;
        }
        p.remove(p.size() - 1);
        return p.size();
    }

    int hurt(int plate, int layer, int how) {
        if (!hasPlate(plate) || !in(layer, 0, plates.get(plate).size() - 1)) {
            return NONE;
        }
        if (!in(how, 0, 2)) {
            return BAD;
        }
        return breakLayer(plates.get(plate), layer, how);
    }

    private static int breakLayer(List<Layer> p, int i, int how) {
        Layer l = p.get(i);
        p.set(i, new Layer(l.stuff, l.way, l.thick, how));
        return l.broken;
    }

    /** Q11, Q22, Q12, Q66 by what is left. */
    private int[] left(Layer l) {
        Stuff s = stuffs.get(l.stuff);
        return switch (l.broken) {
            case 0 -> new int[] {s.q11, s.q22, s.q12, s.q66};
            case 1 -> new int[] {s.q11, 0, 0, 0};
            default -> new int[] {0, 0, 0, 0};
        };
    }

    private int[] turned(Layer l) {
        int[] q = left(l);
        int sum = q[0] + q[1] + 2 * q[2];
        int slant = q[0] - q[1];
        return switch (l.way) {
            case 0 -> new int[] {4 * q[0], 4 * q[1], 4 * q[2], 4 * q[3], 0, 0};
            case 1 -> new int[] {4 * q[1], 4 * q[0], 4 * q[2], 4 * q[3], 0, 0};
            case 2 -> new int[] {sum + 4 * q[3], sum + 4 * q[3], sum - 4 * q[3], q[0] + q[1] - 2 * q[2], slant, slant};
            default -> new int[] {sum + 4 * q[3], sum + 4 * q[3], sum - 4 * q[3], q[0] + q[1] - 2 * q[2], -slant,
                -slant};
        };
    }

    int layer(int plate, int layer, int what) {
        if (!hasPlate(plate) || !in(layer, 0, plates.get(plate).size() - 1) || !in(what, 0, 9)) {
            return NONE;
        }
        Layer l = plates.get(plate).get(layer);
        int[] plain = {l.stuff, l.way, l.thick, l.broken};
        return what < 4 ? plain[what] : turned(l)[what - 4];
    }

    private long entry(List<Layer> p, int part, int what) {
        long z1 = 0;
        for (Layer l : p) {
            z1 -= l.thick;
        }
        long sum = 0;
        for (Layer l : p) {
            long z2 = z1 + 2 * l.thick;
            long[] by = {l.thick, z2 * z2 - z1 * z1, z2 * z2 * z2 - z1 * z1 * z1};
            sum += turned(l)[what] * by[part];
            z1 = z2;
        }
        return sum;
    }

    long table(int plate, int part, int what) {
        return hasPlate(plate) && in(part, 0, 2) && in(what, 0, 5) ? entry(plates.get(plate), part, what) : NO;
    }

    int tied(int plate) {
        if (!hasPlate(plate)) {
            return NONE;
        }
        List<Layer> p = plates.get(plate);
        int bits = 0;
        bits += entry(p, 0, 4) != 0 ? 1 : 0;
        bits += entry(p, 0, 5) != 0 ? 2 : 0;
        bits += entry(p, 2, 4) != 0 ? 4 : 0;
        bits += entry(p, 2, 5) != 0 ? 8 : 0;
        for (int i = 0; i < 6; i++) {
            if (entry(p, 1, i) != 0) {
                return bits + 16;
            }
        }
        return bits;
    }

    int even(int plate) {
        if (!hasPlate(plate)) {
            return NONE;
        }
        List<Layer> over = new ArrayList<>();
        for (Layer l : plates.get(plate)) {
            over.add(0, l);
        }
        return over.equals(plates.get(plate)) ? 1 : 0;
    }

    private Ratio[][] nine(List<Layer> p) {
        int[][] where = {{0, 2, 4}, {2, 1, 5}, {4, 5, 3}};
        Ratio[][] m = new Ratio[3][3];
        for (int i = 0; i < 3; i++) {
            for (int j = 0; j < 3; j++) {
                m[i][j] = Ratio.of(entry(p, 0, where[i][j]));
            }
        }
        return m;
    }

    private static Ratio det(Ratio[][] m) {
        Ratio sum = Ratio.ZERO;
        for (int i = 0; i < 3; i++) {
            int j = (i + 1) % 3;
            int k = (i + 2) % 3;
            sum = sum.plus(m[0][i].times(m[1][j]).times(m[2][k])).minus(m[0][i].times(m[1][k]).times(m[2][j]));
        }
        return sum;
    }

    long determinant(int plate) {
        return hasPlate(plate) ? det(nine(plates.get(plate))).part(0) : NO;
    }

    /** By Cramer's rule; null if there is none. */
    private Ratio[] solve(List<Layer> p, Ratio[] pulls) {
        Ratio[][] m = nine(p);
        Ratio below = det(m);
        if (below.sign() == 0) {
            return null;
        }
        Ratio[] e = new Ratio[3];
        for (int k = 0; k < 3; k++) {
            Ratio[][] other = nine(p);
            for (int i = 0; i < 3; i++) {
                other[i][k] = pulls[i].times(4);
            }
            e[k] = det(other).by(below);
        }
        return e;
    }

    private static Ratio[] load3(int x, int y, int s) {
        return new Ratio[] {Ratio.of(x), Ratio.of(y), Ratio.of(s)};
    }

    long stretch(int plate, int x, int y, int s, int what, int part) {
        if (!hasPlate(plate) || !isLoad(x, y, s) || !in(what, 0, 2) || !in(part, 0, 1)) {
            return NO;
        }
        Ratio[] e = solve(plates.get(plate), load3(x, y, s));
        return e == null ? NO : e[what].part(part);
    }

    long warm(int plate, int w, int what, int part) {
        if (!hasPlate(plate) || !in(w, -100, 100) || !in(what, 0, 2) || !in(part, 0, 1)) {
            return NO;
        }
        Ratio[] pulls = load3(0, 0, 0);
        for (Layer l : plates.get(plate)) {
            int[] q = left(l);
            Stuff s = stuffs.get(l.stuff);
            Ratio p1 = Ratio.of((long) q[0] * s.a1 + (long) q[2] * s.a2);
            Ratio p2 = Ratio.of((long) q[2] * s.a1 + (long) q[1] * s.a2);
            Ratio mid = p1.plus(p2).by(2);
            Ratio[] add = switch (l.way) {
                case 0 -> new Ratio[] {p1, p2, Ratio.ZERO};
                case 1 -> new Ratio[] {p2, p1, Ratio.ZERO};
                case 2 -> new Ratio[] {mid, mid, p1.minus(p2).by(2)};
                default -> new Ratio[] {mid, mid, p2.minus(p1).by(2)};
            };
            for (int i = 0; i < 3; i++) {
                pulls[i] = pulls[i].plus(add[i].times((long) w * l.thick));
            }
        }
        Ratio[] e = solve(plates.get(plate), pulls);
        return e == null ? NO : e[what].part(part);
    }

    /** The five shares of a layer, 0 where there is none. */
    private Ratio[] shares(Layer l, Ratio[] e) {
        Ratio sum = e[0].plus(e[1]);
        Ratio[] own = switch (l.way) {
            case 0 -> new Ratio[] {e[0].times(2), e[1].times(2), e[2].times(2)};
            case 1 -> new Ratio[] {e[1].times(2), e[0].times(2), e[2].times(-2)};
            case 2 -> new Ratio[] {sum.plus(e[2]), sum.minus(e[2]), e[1].minus(e[0]).times(2)};
            default -> new Ratio[] {sum.minus(e[2]), sum.plus(e[2]), e[0].minus(e[1]).times(2)};
        };
        int[] q = left(l);
        int[] st = stuffs.get(l.stuff).strength;
        Ratio s1 = own[0].times(q[0]).plus(own[1].times(q[2])).by(2);
        Ratio s2 = own[0].times(q[2]).plus(own[1].times(q[1])).by(2);
        Ratio s6 = own[2].times(q[3]).by(2);
        return new Ratio[] {
            s1.sign() > 0 ? s1.by(st[0]) : Ratio.ZERO,
            s1.sign() < 0 ? s1.by(-st[1]) : Ratio.ZERO,
            s2.sign() > 0 ? s2.by(st[2]) : Ratio.ZERO,
            s2.sign() < 0 ? s2.by(-st[3]) : Ratio.ZERO,
            s6.times(s6.sign()).by(st[4]),
        };
    }

    /** The first one, or null; its factor is 1 by the share. */
    private Step firstOf(List<Layer> p, int x, int y, int s) {
        Ratio[] e = solve(p, load3(x, y, s));
        if (e == null) {
            return null;
        }
        Ratio most = Ratio.ZERO;
        int place = NONE;
        for (int i = 0; i < p.size(); i++) {
            Ratio[] shares = shares(p.get(i), e);
            for (int k = 0; k < 5; k++) {
                if (shares[k].compareTo(most) > 0) {
                    most = shares[k];
                    place = 10 * i + k;
                }
            }
        }
        return place == NONE ? null : new Step(place, Ratio.of(1).by(most));
    }

    private boolean isHeld(List<Layer> p, int x, int y, int s) {
        if (det(nine(p)).sign() == 0) {
            return false;
        }
        Step f = firstOf(p, x, y, s);
        return f == null || f.factor.compareTo(Ratio.of(1)) >= 0;
    }

    int holds(int plate, int x, int y, int s) {
        if (!hasPlate(plate)) {
            return NONE;
        }
        if (!isLoad(x, y, s)) {
            return BAD;
        }
        return isHeld(plates.get(plate), x, y, s) ? 1 : 0;
    }

    int first(int plate, int x, int y, int s) {
        if (!hasPlate(plate) || determinant(plate) == 0) {
            return NONE;
        }
        if (!isLoad(x, y, s)) {
            return BAD;
        }
        Step f = firstOf(plates.get(plate), x, y, s);
        return f == null ? NONE : f.place;
    }

    long factor(int plate, int x, int y, int s, int part) {
        if (!hasPlate(plate) || !isLoad(x, y, s) || !in(part, 0, 1)) {
            return NO;
        }
        Step f = firstOf(plates.get(plate), x, y, s);
        return f == null ? NO : f.factor.part(part);
    }

    int breaks(int plate, int x, int y, int s) {
        if (!hasPlate(plate)) {
            return NONE;
        }
        if (!isLoad(x, y, s)) {
            return BAD;
        }
        List<Layer> p = new ArrayList<>(plates.get(plate));
        steps = new ArrayList<>();
        for (Step f = firstOf(p, x, y, s); f != null; f = firstOf(p, x, y, s)) {
            steps.add(f);
            breakLayer(p, f.place / 10, f.place % 10 < 2 ? 2 : 1);
        }
        return steps.size();
    }

    long step(int i, int what) {
        if (!in(i, 0, steps.size() - 1) || !in(what, 0, 2)) {
            return NO;
        }
        return what == 0 ? steps.get(i).place : steps.get(i).factor.part(what - 1);
    }

    int last() {
        int best = NONE;
        for (int i = 0; i < steps.size(); i++) {
            if (best == NONE || steps.get(i).factor.compareTo(steps.get(best).factor) > 0) {
                best = i;
            }
        }
        return best;
    }

    int rules(int newRun, int newStep, int newEach) {
        if (!in(newRun, 1, 12) || !in(newEach, 0, 3)) {
            return BAD;
        }
        run = newRun;
        stepRule = newStep == 1;
        each = newEach;
        return 0;
    }

    private int unkept(List<Layer> p) {
        for (int i = 0; i + run < p.size(); i++) {
            boolean same = true;
            for (int k = i; k <= i + run; k++) {
                same &= p.get(k).way == p.get(i).way;
            }
            if (same) {
                return 1;
            }
        }
        for (int i = 0; stepRule && i + 1 < p.size(); i++) {
            if (p.get(i).way < 2 && p.get(i + 1).way < 2 && p.get(i).way != p.get(i + 1).way) {
                return 2;
            }
        }
        int[] counts = new int[4];
        for (Layer l : p) {
            counts[l.way]++;
        }
        for (int c : counts) {
            if (c < each) {
                return 3;
            }
        }
        return 0;
    }

    int rule(int plate) {
        return hasPlate(plate) ? unkept(plates.get(plate)) : NONE;
    }

    int load(int x, int y, int s) {
        if (!isLoad(x, y, s)) {
            return BAD;
        }
        if (cases.size() == 4) {
            return FULL;
        }
        cases.add(new int[] {x, y, s});
        return cases.size() - 1;
    }

    int unload() {
        int were = cases.size();
        cases.clear();
        return were;
    }

    private boolean suits(List<Layer> p) {
        if (unkept(p) != 0) {
            return false;
        }
        for (int[] c : cases) {
            if (!isHeld(p, c[0], c[1], c[2])) {
                return false;
            }
        }
        return true;
    }

    /** Lays one more layer of the lower half, way by way, and asks the whole lay when the half is full. */
    private List<Layer> grow(List<Integer> ways, int half, int stuff) {
        if (ways.size() == half) {
            List<Layer> p = new ArrayList<>();
            for (int way : ways) {
                p.add(new Layer(stuff, way, 1, 0));
            }
            for (int i = half - 1; i >= 0; i--) {
                p.add(p.get(i));
            }
            return suits(p) ? p : null;
        }
        for (int way = 0; way < 4; way++) {
            ways.add(way);
            List<Layer> found = grow(ways, half, stuff);
            ways.remove(ways.size() - 1);
            if (found != null) {
                return found;
            }
        }
        return null;
    }

    int fewest(int plate, int stuff) {
        if (!hasPlate(plate) || !hasStuff(stuff)) {
            return NONE;
        }
        for (int half = 1; half <= 5; half++) {
            List<Layer> found = grow(new ArrayList<>(), half, stuff);
            if (found != null) {
                plates.set(plate, found);
                return found.size();
            }
        }
        return STATE;
    }

    int comes(int a, int b) {
        if (!hasPlate(a) || !hasPlate(b)) {
            return NONE;
        }
        return drop(a, b) == NONE ? 0 : 1;
    }

    int drop(int a, int b) {
        if (!hasPlate(a) || !hasPlate(b)) {
            return NONE;
        }
        int bits = (1 << plates.get(a).size()) - 1;
        int from = 0;
        for (Layer l : plates.get(b)) {
            while (from < plates.get(a).size() && !plates.get(a).get(from).equals(l)) {
                from++;
            }
            if (from == plates.get(a).size()) {
                return NONE;
            }
            bits -= 1 << from;
            from++;
        }
        return bits;
    }

    int count(int what) {
        if (in(what, 0, 2)) {
            return new int[] {stuffs.size(), plates.size(), cases.size()}[what];
        }
        if (in(what, 10, 9 + plates.size())) {
            return plates.get(what - 10).size();
        }
        if (in(what, 20, 19 + plates.size())) {
            int h = 0;
            for (Layer l : plates.get(what - 20)) {
                h += l.thick;
            }
            return h;
        }
        return NONE;
    }
}
