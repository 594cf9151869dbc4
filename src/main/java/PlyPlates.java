import java.util.Arrays;

/**
 * Plates of thin layers of fibres laid at four ways, reckoned in whole numbers and fractions of them alone, so that
 * every answer is exact. All rows are made with the object and used again: no call makes an object.
 */
public final class PlyPlates {
    public static final int NONE = -1, BAD = -2, STATE = -3, FULL = -4;
    public static final long NO = Long.MIN_VALUE;

    private static final int MOST_STUFFS = 3;
    private static final int MOST_PLATES = 4;
    private static final int MOST_LAYERS = 12;
    private static final int MOST_CASES = 4;

    private static final int MOST_STIFFNESS = 200;
    private static final int MOST_STRENGTH = 1000;
    private static final int STRENGTH_AT_FIRST = 100;
    private static final int MOST_GROWTH = 20;
    private static final int MOST_THICK = 3;
    private static final int MOST_PULL = 100;
    private static final int MOST_WARMTH = 100;
    private static final int MOST_EACH = 3;

    private static final int WAYS = 4;
    private static final int ALONG = 0, ACROSS = 1, UP = 2;

    private static final int KINDS = 5;
    private static final int PULL_ALONG = 0, PUSH_ALONG = 1, PULL_ACROSS = 2, PUSH_ACROSS = 3, SHEAR = 4;

    private static final int WHOLE = 0, BROKEN_ACROSS = 1, BROKEN_ALL = 2;

    /** The places of a table's six numbers, in the document's order. */
    private static final int N11 = 0, N22 = 1, N12 = 2, N66 = 3, N16 = 4, N26 = 5;
    private static final int NUMBERS = 6;
    private static final int PART_A = 0, PART_B = 1, PART_D = 2;

    /** A layer breaks twice at most: across, and then along. */
    private static final int MOST_STEPS = 2 * MOST_LAYERS;

    /** The lower half of the thickest lay that is looked for. */
    private static final int MOST_HALF = 5;

    /** Euclid's way takes under a hundred steps for any two longs. */
    private static final int MOST_DIVISIONS = 200;

    private final Stuff[] stuffs = new Stuff[MOST_STUFFS];
    private final Plate[] plates = new Plate[MOST_PLATES];
    private final Cases cases = new Cases();
    private final LayRules layRules = new LayRules();
    private final BreakLog breakLog = new BreakLog();
    private final Plate breaking = new Plate();
    private final Fraction fraction = new Fraction();
    private final Flat flat;
    private final Search search;
    private int stuffCount = 0;
    private int plateCount = 0;

    public PlyPlates() {
        for (int i = 0; i < MOST_STUFFS; i++) {
            stuffs[i] = new Stuff();
        }
        for (int i = 0; i < MOST_PLATES; i++) {
            plates[i] = new Plate();
        }
        flat = new Flat(stuffs);
        search = new Search(flat, layRules, cases);
    }

    // ---- stuffs

    public int stuff(int q11, int q22, int q12, int q66) {
        if (!isStiffness(q11, q22, q12, q66)) {
            return BAD;
        }
        if (stuffCount >= MOST_STUFFS) {
            return FULL;
        }
        stuffs[stuffCount].become(q11, q22, q12, q66);
        stuffCount++;
        return stuffCount - 1;
    }

    public int strength(int stuff, int kind, int v) {
        if (!isStuff(stuff)) {
            return NONE;
        }
        if (!isWithin(kind, 0, KINDS - 1) || !isWithin(v, 1, MOST_STRENGTH)) {
            return BAD;
        }
        int[] strengths = stuffs[stuff].strengths;
        int before = strengths[kind];
        strengths[kind] = v;
        return before;
    }

    public int growth(int stuff, int along, int across) {
        if (!isStuff(stuff)) {
            return NONE;
        }
        if (!isWithin(along, -MOST_GROWTH, MOST_GROWTH) || !isWithin(across, -MOST_GROWTH, MOST_GROWTH)) {
            return BAD;
        }
        stuffs[stuff].along = along;
        stuffs[stuff].across = across;
        return 0;
    }

    // ---- plates and their layers

    public int plate() {
        if (plateCount >= MOST_PLATES) {
            return FULL;
        }
        plateCount++;
        return plateCount - 1;
    }

    public int lay(int plate, int stuff, int way, int thick) {
        if (!isPlate(plate) || !isStuff(stuff) || !isWithin(way, 0, WAYS - 1)) {
            return NONE;
        }
        if (!isWithin(thick, 1, MOST_THICK)) {
            return BAD;
        }
        if (plates[plate].isFull()) {
            return FULL;
        }
        plates[plate].put(stuff, way, thick);
        return plates[plate].size - 1;
    }

    public int peel(int plate) {
        if (!isPlate(plate)) {
            return NONE;
        }
        if (plates[plate].size == 0) {
            return STATE;
        }
        plates[plate].size--;
        return plates[plate].size;
    }

    public int hurt(int plate, int layer, int how) {
        if (!isLayer(plate, layer)) {
            return NONE;
        }
        if (!isWithin(how, WHOLE, BROKEN_ALL)) {
            return BAD;
        }
        Layer hurt = plates[plate].layers[layer];
        int before = hurt.broken;
        hurt.broken = how;
        return before;
    }

    public int layer(int plate, int layer, int what) {
        if (!isLayer(plate, layer)) {
            return NONE;
        }
        Layer asked = plates[plate].layers[layer];
        switch (what) {
            case 0:
                return asked.stuffNumber;
            case 1:
                return asked.way;
            case 2:
                return asked.thick;
            case 3:
                return asked.broken;
            default:
                return isWithin(what, 4, 9) ? flat.turnedNumber(asked, what - 4) : NONE;
        }
    }

    // ---- the table

    public long table(int plate, int part, int what) {
        if (!isPlate(plate) || !isWithin(part, PART_A, PART_D) || !isWithin(what, 0, NUMBERS - 1)) {
            return NO;
        }
        flat.sum(plates[plate], part);
        return flat.sums[what];
    }

    public int tied(int plate) {
        if (!isPlate(plate)) {
            return NONE;
        }
        flat.sum(plates[plate], PART_A);
        int bits = bitIf(flat.sums[N16] != 0, 0) | bitIf(flat.sums[N26] != 0, 1);
        flat.sum(plates[plate], PART_D);
        bits |= bitIf(flat.sums[N16] != 0, 2) | bitIf(flat.sums[N26] != 0, 3);
        flat.sum(plates[plate], PART_B);
        return bits | bitIf(flat.isAnySumLeft(), 4);
    }

    public int even(int plate) {
        if (!isPlate(plate)) {
            return NONE;
        }
        return plates[plate].isEven() ? 1 : 0;
    }

    public long determinant(int plate) {
        if (!isPlate(plate)) {
            return NO;
        }
        flat.prepare(plates[plate]);
        return flat.below;
    }

    // ---- stretch

    public long stretch(int plate, int nx, int ny, int ns, int what, int part) {
        if (!isPlate(plate) || !isLoad(nx, ny, ns)) {
            return NO;
        }
        flat.prepare(plates[plate]);
        flat.pull(nx, ny, ns);
        return stretchPart(what, part);
    }

    public long warm(int plate, int w, int what, int part) {
        if (!isPlate(plate) || !isWithin(w, -MOST_WARMTH, MOST_WARMTH)) {
            return NO;
        }
        flat.prepare(plates[plate]);
        flat.warmUp(plates[plate], w);
        return stretchPart(what, part);
    }

    // ---- what gives first, and what then

    public int holds(int plate, int nx, int ny, int ns) {
        if (!isPlate(plate)) {
            return NONE;
        }
        if (!isLoad(nx, ny, ns)) {
            return BAD;
        }
        flat.prepare(plates[plate]);
        return flat.isHeld(plates[plate], nx, ny, ns) ? 1 : 0;
    }

    public int first(int plate, int nx, int ny, int ns) {
        if (!isPlate(plate)) {
            return NONE;
        }
        flat.prepare(plates[plate]);
        // The document tells NONE, a determinant of 0 among it, before BAD.
        if (flat.below == 0) {
            return NONE;
        }
        if (!isLoad(nx, ny, ns)) {
            return BAD;
        }
        flat.findWorst(plates[plate], nx, ny, ns);
        return flat.worstPlace;
    }

    public long factor(int plate, int nx, int ny, int ns, int part) {
        if (!isPlate(plate) || !isLoad(nx, ny, ns)) {
            return NO;
        }
        flat.prepare(plates[plate]);
        flat.findWorst(plates[plate], nx, ny, ns);
        if (flat.worstPlace == NONE) {
            return NO;
        }
        fraction.become(flat.worstLimit(), flat.worstStress);
        return fraction.partOf(part);
    }

    public int breaks(int plate, int nx, int ny, int ns) {
        if (!isPlate(plate)) {
            return NONE;
        }
        if (!isLoad(nx, ny, ns)) {
            return BAD;
        }
        breaking.copy(plates[plate]);
        breakLog.steps = 0;
        for (int i = 0; i < MOST_STEPS; i++) {
            flat.prepare(breaking);
            flat.findWorst(breaking, nx, ny, ns);
            if (flat.worstPlace == NONE) {
                break;
            }
            fraction.become(flat.worstLimit(), flat.worstStress);
            breakLog.note(flat.worstPlace, fraction);
            breaking.giveWay(flat.worstPlace);
        }
        return breakLog.steps;
    }

    public long step(int i, int what) {
        if (!isWithin(i, 0, breakLog.steps - 1)) {
            return NO;
        }
        switch (what) {
            case 0:
                return breakLog.places[i];
            case 1:
                return breakLog.above[i];
            case 2:
                return breakLog.below[i];
            default:
                return NO;
        }
    }

    public int last() {
        return breakLog.greatest();
    }

    // ---- rules, cases and the fewest layers

    public int rules(int run, int step, int each) {
        if (!isWithin(run, 1, MOST_LAYERS) || !isWithin(each, 0, MOST_EACH)) {
            return BAD;
        }
        layRules.mostRun = run;
        // "1 or not": every number but 1 says not, and so none is bad.
        layRules.isStepRuled = step == 1;
        layRules.leastEach = each;
        return 0;
    }

    public int rule(int plate) {
        return isPlate(plate) ? layRules.firstUnkept(plates[plate]) : NONE;
    }

    public int load(int nx, int ny, int ns) {
        if (!isLoad(nx, ny, ns)) {
            return BAD;
        }
        if (cases.size >= MOST_CASES) {
            return FULL;
        }
        cases.put(nx, ny, ns);
        return cases.size - 1;
    }

    public int unload() {
        int before = cases.size;
        cases.size = 0;
        return before;
    }

    public int fewest(int plate, int stuff) {
        if (!isPlate(plate) || !isStuff(stuff)) {
            return NONE;
        }
        if (!search.find(stuff)) {
            return STATE;
        }
        plates[plate].copy(search.tried);
        return plates[plate].size;
    }

    // ---- lays that come of others

    public int comes(int a, int b) {
        if (!isPlate(a) || !isPlate(b)) {
            return NONE;
        }
        return plates[a].leftOver(plates[b]) == NONE ? 0 : 1;
    }

    public int drop(int a, int b) {
        if (!isPlate(a) || !isPlate(b)) {
            return NONE;
        }
        return plates[a].leftOver(plates[b]);
    }

    public int count(int what) {
        if (what == 0) {
            return stuffCount;
        }
        if (what == 1) {
            return plateCount;
        }
        if (what == 2) {
            return cases.size;
        }
        if (what >= 10 && isPlate(what - 10)) {
            return plates[what - 10].size;
        }
        if (what >= 20 && isPlate(what - 20)) {
            return plates[what - 20].thickness();
        }
        return NONE;
    }

    // ---- what is asked of arguments

    private static boolean isWithin(int v, int least, int most) {
        return v >= least && v <= most;
    }

    private static boolean isStiffness(int q11, int q22, int q12, int q66) {
        return isWithin(q11, 1, MOST_STIFFNESS) && isWithin(q22, 1, MOST_STIFFNESS)
            && isWithin(q12, 0, MOST_STIFFNESS) && isWithin(q66, 1, MOST_STIFFNESS)
            && q12 * q12 < q11 * q22;
    }

    private static boolean isLoad(int nx, int ny, int ns) {
        return isWithin(nx, -MOST_PULL, MOST_PULL) && isWithin(ny, -MOST_PULL, MOST_PULL)
            && isWithin(ns, -MOST_PULL, MOST_PULL);
    }

    private boolean isStuff(int stuff) {
        return isWithin(stuff, 0, stuffCount - 1);
    }

    private boolean isPlate(int plate) {
        return isWithin(plate, 0, plateCount - 1);
    }

    private boolean isLayer(int plate, int layer) {
        return isPlate(plate) && isWithin(layer, 0, plates[plate].size - 1);
    }

    private static int bitIf(boolean set, int bit) {
        return set ? 1 << bit : 0;
    }

    private long stretchPart(int what, int part) {
        if (flat.below == 0 || !isWithin(what, 0, 2)) {
            return NO;
        }
        fraction.become(flat.above[what], flat.below);
        return fraction.partOf(part);
    }

    // ---- the classes inside

    private static final class Stuff {
        int q11 = 1;
        int q22 = 1;
        int q12 = 0;
        int q66 = 1;
        int along = 0;
        int across = 0;
        final int[] strengths = new int[KINDS];

        void become(int newQ11, int newQ22, int newQ12, int newQ66) {
            q11 = newQ11;
            q22 = newQ22;
            q12 = newQ12;
            q66 = newQ66;
            Arrays.fill(strengths, STRENGTH_AT_FIRST);
        }
    }

    private static final class Layer {
        int stuffNumber = 0;
        int way = 0;
        int thick = 1;
        int broken = WHOLE;

        void become(int newStuff, int newWay, int newThick, int newBroken) {
            stuffNumber = newStuff;
            way = newWay;
            thick = newThick;
            broken = newBroken;
        }

        boolean isLike(Layer other) {
            return stuffNumber == other.stuffNumber && way == other.way
                && thick == other.thick && broken == other.broken;
        }
    }

    private static final class Plate {
        final Layer[] layers = new Layer[MOST_LAYERS];
        int size = 0;

        Plate() {
            for (int i = 0; i < MOST_LAYERS; i++) {
                layers[i] = new Layer();
            }
        }

        boolean isFull() {
            return size >= MOST_LAYERS;
        }

        void put(int stuffNumber, int way, int thick) {
            if (!isFull()) {
                layers[size].become(stuffNumber, way, thick, WHOLE);
                size++;
            }
        }

        void copy(Plate other) {
            size = other.size;
            for (int i = 0; i < size; i++) {
                Layer from = other.layers[i];
                layers[i].become(from.stuffNumber, from.way, from.thick, from.broken);
            }
        }

        int thickness() {
            int sum = 0;
            for (int i = 0; i < size; i++) {
                sum += layers[i].thick;
            }
            return sum;
        }

        boolean isEven() {
            for (int i = 0; i < size / 2; i++) {
                if (!layers[i].isLike(layers[size - 1 - i])) {
                    return false;
                }
            }
            return true;
        }

        /** Breaks the layer of a place (10 times the layer and the kind) by that kind. */
        void giveWay(int place) {
            int number = place / 10;
            if (number >= 0 && number < size) {
                layers[number].broken = place % 10 <= PUSH_ALONG ? BROKEN_ALL : BROKEN_ACROSS;
            }
        }

        /** The layers, as bits, that are not needed to find the other's in their order; NONE if these are not there. */
        int leftOver(Plate other) {
            int bits = 0;
            int found = 0;
            for (int i = 0; i < size; i++) {
                if (found < other.size && layers[i].isLike(other.layers[found])) {
                    found++;
                } else {
                    bits |= 1 << i;
                }
            }
            return found == other.size ? bits : NONE;
        }
    }

    /** The stiffness that is left of a layer. */
    private static final class Left {
        int q11 = 0;
        int q22 = 0;
        int q12 = 0;
        int q66 = 0;

        void become(Stuff stuff, int broken) {
            boolean isWhole = broken == WHOLE;
            q11 = broken == BROKEN_ALL ? 0 : stuff.q11;
            q22 = isWhole ? stuff.q22 : 0;
            q12 = isWhole ? stuff.q12 : 0;
            q66 = isWhole ? stuff.q66 : 0;
        }

        void turn(int way, int[] into) {
            if (way == ALONG || way == ACROSS) {
                into[N11] = 4 * (way == ALONG ? q11 : q22);
                into[N22] = 4 * (way == ALONG ? q22 : q11);
                into[N12] = 4 * q12;
                into[N66] = 4 * q66;
                into[N16] = 0;
                into[N26] = 0;
                return;
            }
            into[N11] = q11 + q22 + 2 * q12 + 4 * q66;
            into[N22] = into[N11];
            into[N12] = q11 + q22 + 2 * q12 - 4 * q66;
            into[N66] = q11 + q22 - 2 * q12;
            into[N16] = way == UP ? q11 - q22 : q22 - q11;
            into[N26] = into[N16];
        }
    }

    /**
     * A plate held flat: its table, its stretch and the layer that gives first. Longs are wide enough: the six numbers
     * of A stay below 57,601, their determinant below 10^14, a stress times a strength below 4 * 10^18.
     */
    private static final class Flat {
        private final Stuff[] stuffs;
        private final Left left = new Left();
        private final int[] turned = new int[NUMBERS];
        private final long[] adjoint = new long[NUMBERS];
        final long[] sums = new long[NUMBERS];
        /** ex, ey, es times the determinant, which stands below the line. */
        final long[] above = new long[3];
        long below = 0;
        private long stress1 = 0;
        private long stress2 = 0;
        private long stress6 = 0;
        int worstPlace = NONE;
        long worstStress = 0;
        private int worstStrength = 1;

        Flat(Stuff[] stuffs) {
            this.stuffs = stuffs;
        }

        int turnedNumber(Layer layer, int number) {
            turnLayer(layer);
            return turned[number];
        }

        private void turnLayer(Layer layer) {
            left.become(stuffs[layer.stuffNumber], layer.broken);
            left.turn(layer.way, turned);
        }

        void sum(Plate plate, int part) {
            Arrays.fill(sums, 0L);
            long lower = -plate.thickness();
            for (int i = 0; i < plate.size; i++) {
                Layer layer = plate.layers[i];
                long upper = lower + 2L * layer.thick;
                turnLayer(layer);
                long weight = weightOf(part, layer.thick, lower, upper);
                for (int k = 0; k < NUMBERS; k++) {
                    sums[k] += turned[k] * weight;
                }
                lower = upper;
            }
        }

        private static long weightOf(int part, int thick, long lower, long upper) {
            if (part == PART_A) {
                return thick;
            }
            if (part == PART_B) {
                return upper * upper - lower * lower;
            }
            return upper * upper * upper - lower * lower * lower;
        }

        boolean isAnySumLeft() {
            for (int k = 0; k < NUMBERS; k++) {
                if (sums[k] != 0) {
                    return true;
                }
            }
            return false;
        }

        /** Reckons the plate's A and what answers for its pulls; it comes before all that asks for a stretch. */
        void prepare(Plate plate) {
            sum(plate, PART_A);
            long a11 = sums[N11];
            long a22 = sums[N22];
            long a12 = sums[N12];
            long a66 = sums[N66];
            long a16 = sums[N16];
            long a26 = sums[N26];
            adjoint[N11] = a22 * a66 - a26 * a26;
            adjoint[N22] = a11 * a66 - a16 * a16;
            adjoint[N66] = a11 * a22 - a12 * a12;
            adjoint[N12] = a16 * a26 - a12 * a66;
            adjoint[N16] = a12 * a26 - a22 * a16;
            adjoint[N26] = a12 * a16 - a11 * a26;
            below = a11 * adjoint[N11] + a12 * adjoint[N12] + a16 * adjoint[N16];
        }

        void pull(int nx, int ny, int ns) {
            pullFourfold(4L * nx, 4L * ny, 4L * ns);
        }

        private void pullFourfold(long x, long y, long s) {
            above[0] = adjoint[N11] * x + adjoint[N12] * y + adjoint[N16] * s;
            above[1] = adjoint[N12] * x + adjoint[N22] * y + adjoint[N26] * s;
            above[2] = adjoint[N16] * x + adjoint[N26] * y + adjoint[N66] * s;
        }

        /** Stretches by warmth; four times the pulls are whole numbers where the pulls themselves may be halves. */
        void warmUp(Plate plate, int w) {
            long x = 0;
            long y = 0;
            long s = 0;
            for (int i = 0; i < plate.size; i++) {
                Layer layer = plate.layers[i];
                Stuff stuff = stuffs[layer.stuffNumber];
                left.become(stuff, layer.broken);
                long amount = (long) w * layer.thick;
                long p1 = amount * (left.q11 * stuff.along + left.q12 * stuff.across);
                long p2 = amount * (left.q12 * stuff.along + left.q22 * stuff.across);
                if (layer.way == ALONG || layer.way == ACROSS) {
                    x += 4 * (layer.way == ALONG ? p1 : p2);
                    y += 4 * (layer.way == ALONG ? p2 : p1);
                } else {
                    x += 2 * (p1 + p2);
                    y += 2 * (p1 + p2);
                    s += 2 * (layer.way == UP ? p1 - p2 : p2 - p1);
                }
            }
            pullFourfold(x, y, s);
        }

        boolean isHeld(Plate plate, int nx, int ny, int ns) {
            findWorst(plate, nx, ny, ns);
            return below != 0 && worstStress <= worstLimit();
        }

        /** What the worst stress may come to; the stresses are told twice, and times the determinant. */
        long worstLimit() {
            return 2 * below * worstStrength;
        }

        /** Finds the greatest share; its place is NONE if no share is above 0 or the determinant is 0. */
        void findWorst(Plate plate, int nx, int ny, int ns) {
            worstPlace = NONE;
            worstStress = 0;
            worstStrength = 1;
            if (below == 0) {
                return;
            }
            pull(nx, ny, ns);
            for (int i = 0; i < plate.size; i++) {
                Layer layer = plate.layers[i];
                reckonStress(layer);
                int[] strengths = stuffs[layer.stuffNumber].strengths;
                offer(i, stress1 > 0 ? PULL_ALONG : PUSH_ALONG, Math.abs(stress1), strengths);
                offer(i, stress2 > 0 ? PULL_ACROSS : PUSH_ACROSS, Math.abs(stress2), strengths);
                offer(i, SHEAR, Math.abs(stress6), strengths);
            }
        }

        /** Takes a share that is greater than all before it: of equal ones the least layer and kind stay. */
        private void offer(int number, int kind, long stress, int[] strengths) {
            int strength = strengths[kind];
            if (stress * worstStrength > worstStress * strength) {
                worstPlace = 10 * number + kind;
                worstStress = stress;
                worstStrength = strength;
            }
        }

        private void reckonStress(Layer layer) {
            left.become(stuffs[layer.stuffNumber], layer.broken);
            long ex = above[0];
            long ey = above[1];
            long es = above[2];
            switch (layer.way) {
                case ALONG:
                    stressBy(2 * ex, 2 * ey, 2 * es);
                    break;
                case ACROSS:
                    stressBy(2 * ey, 2 * ex, -2 * es);
                    break;
                case UP:
                    stressBy(ex + ey + es, ex + ey - es, 2 * ey - 2 * ex);
                    break;
                default:
                    stressBy(ex + ey - es, ex + ey + es, 2 * ex - 2 * ey);
                    break;
            }
        }

        private void stressBy(long e1, long e2, long g) {
            stress1 = left.q11 * e1 + left.q12 * e2;
            stress2 = left.q12 * e1 + left.q22 * e2;
            stress6 = left.q66 * g;
        }
    }

    private static final class Fraction {
        long above = 0;
        long below = 1;

        void become(long newAbove, long newBelow) {
            long divisor = commonDivisor(Math.abs(newAbove), Math.abs(newBelow));
            if (divisor == 0) {
                return;
            }
            long signed = newBelow < 0 ? -divisor : divisor;
            above = newAbove / signed;
            below = newBelow / signed;
        }

        long partOf(int part) {
            if (part == 0) {
                return above;
            }
            return part == 1 ? below : NO;
        }

        private static long commonDivisor(long a, long b) {
            for (int i = 0; i < MOST_DIVISIONS && b != 0; i++) {
                long rest = a % b;
                a = b;
                b = rest;
            }
            return a;
        }

        /**
         * Whether a by b is greater than c by d, all above 0. The parts are divided step by step, as in Euclid's way,
         * for their products would not fit into a long.
         */
        static boolean isGreater(long a, long b, long c, long d) {
            for (int i = 0; i < MOST_DIVISIONS && b != 0 && d != 0; i++) {
                long whole = a / b;
                long otherWhole = c / d;
                if (whole != otherWhole) {
                    return whole > otherWhole;
                }
                // The rests compare as their upside-down fractions do the other way round.
                long rest = a % b;
                long otherRest = c % d;
                a = d;
                c = b;
                b = otherRest;
                d = rest;
            }
            return b == 0 && d != 0;
        }
    }

    /** The steps of the latest break. */
    private static final class BreakLog {
        final int[] places = new int[MOST_STEPS];
        final long[] above = new long[MOST_STEPS];
        final long[] below = new long[MOST_STEPS];
        int steps = 0;

        void note(int place, Fraction factor) {
            if (steps < MOST_STEPS) {
                places[steps] = place;
                above[steps] = factor.above;
                below[steps] = factor.below;
                steps++;
            }
        }

        int greatest() {
            int best = steps == 0 ? NONE : 0;
            for (int i = 1; i < steps; i++) {
                if (Fraction.isGreater(above[i], below[i], above[best], below[best])) {
                    best = i;
                }
            }
            return best;
        }
    }

    private static final class Cases {
        final int[][] pulls = new int[MOST_CASES][3];
        int size = 0;

        void put(int nx, int ny, int ns) {
            if (size < MOST_CASES) {
                pulls[size][0] = nx;
                pulls[size][1] = ny;
                pulls[size][2] = ns;
                size++;
            }
        }
    }

    private static final class LayRules {
        int mostRun = MOST_LAYERS;
        boolean isStepRuled = false;
        int leastEach = 0;

        int firstUnkept(Plate plate) {
            if (!keepsRun(plate)) {
                return 1;
            }
            if (isStepRuled && !keepsStep(plate)) {
                return 2;
            }
            return keepsEach(plate) ? 0 : 3;
        }

        private boolean keepsRun(Plate plate) {
            int run = 0;
            for (int i = 0; i < plate.size; i++) {
                boolean goesOn = i > 0 && plate.layers[i].way == plate.layers[i - 1].way;
                run = goesOn ? run + 1 : 1;
                if (run > mostRun) {
                    return false;
                }
            }
            return true;
        }

        private boolean keepsStep(Plate plate) {
            for (int i = 1; i < plate.size; i++) {
                int way = plate.layers[i].way;
                int under = plate.layers[i - 1].way;
                if ((way == ALONG && under == ACROSS) || (way == ACROSS && under == ALONG)) {
                    return false;
                }
            }
            return true;
        }

        private boolean keepsEach(Plate plate) {
            for (int way = 0; way < WAYS; way++) {
                int found = 0;
                for (int i = 0; i < plate.size; i++) {
                    if (plate.layers[i].way == way) {
                        found++;
                    }
                }
                if (found < leastEach) {
                    return false;
                }
            }
            return true;
        }
    }

    /** Looks for the fewest layers: a lay is told by its lower half, and that by a number of as many digits 0 to 3. */
    private static final class Search {
        private static final int UNKNOWN = 0, HOLDS = 1, FAILS = 2;
        private static final int BASE = MOST_HALF + 1;

        private final Flat flat;
        private final LayRules layRules;
        private final Cases cases;
        final Plate tried = new Plate();
        private final Plate gathered = new Plate();
        private final int[] perWay = new int[WAYS];
        private final int[] known = new int[BASE * BASE * BASE];

        Search(Flat flat, LayRules layRules, Cases cases) {
            this.flat = flat;
            this.layRules = layRules;
            this.cases = cases;
        }

        boolean find(int stuff) {
            for (int half = 1; half <= MOST_HALF; half++) {
                Arrays.fill(known, UNKNOWN);
                int lays = 1 << (2 * half);
                for (int code = 0; code < lays; code++) {
                    if (holdsCases(stuff, code, half) && keepsRules(stuff, code, half)) {
                        return true;
                    }
                }
            }
            return false;
        }

        /** The lowest layer has the highest digit, so that lays in the document's order have rising numbers. */
        private static int wayAt(int code, int half, int place) {
            return (code >> (2 * (half - 1 - place))) & 3;
        }

        private boolean keepsRules(int stuff, int code, int half) {
            tried.size = 0;
            for (int i = 0; i < half; i++) {
                tried.put(stuff, wayAt(code, half, i), 1);
            }
            for (int i = half - 1; i >= 0; i--) {
                tried.put(stuff, wayAt(code, half, i), 1);
            }
            return layRules.firstUnkept(tried) == 0;
        }

        /** Held flat, a lay answers by how many layers lie each way, in whatever order: each such lot is tried once. */
        private boolean holdsCases(int stuff, int code, int half) {
            Arrays.fill(perWay, 0);
            for (int i = 0; i < half; i++) {
                perWay[wayAt(code, half, i)]++;
            }
            int lot = (perWay[0] * BASE + perWay[1]) * BASE + perWay[2];
            if (lot < 0 || lot >= known.length) {
                return false;
            }
            if (known[lot] == UNKNOWN) {
                known[lot] = doesLotHold(stuff) ? HOLDS : FAILS;
            }
            return known[lot] == HOLDS;
        }

        private boolean doesLotHold(int stuff) {
            gathered.size = 0;
            for (int way = 0; way < WAYS; way++) {
                if (perWay[way] > 0) {
                    gathered.put(stuff, way, 2 * perWay[way]);
                }
            }
            flat.prepare(gathered);
            for (int i = 0; i < cases.size; i++) {
                int[] pulls = cases.pulls[i];
                if (!flat.isHeld(gathered, pulls[0], pulls[1], pulls[2])) {
                    return false;
                }
            }
            return true;
        }
    }
}
