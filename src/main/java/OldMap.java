/**
 * A table where old maps are bent onto new ones by points that both know.
 *
 * All arithmetic is exact, in whole numbers: a fraction is held as what stands above and below its
 * line, and is cleared only as it is told. The document's bounds (12 POINTS, numbers of -1000 to
 * 1000) keep every such number below 2 to the power of 57, so that a long never overflows.
 *
 * No call makes an object: all rows are made with the object and used again.
 */
public final class OldMap {
    public static final int NUMBER = -1;
    public static final int FULL = -2;
    public static final int FEW = -3;
    public static final int FLAT = -4;
    public static final int NONE = -5;
    public static final long NOTHING = -4000000000000000000L;

    private static final int FARTHEST = 1000;
    private static final int MOST_POINTS = 12;
    private static final int MOST_TRIANGLES = 10;
    private static final int MOST_THINGS = 6;
    /** Sets of at most 3 of 12 POINTS: 1 of none, 12 of one, 66 of two, 220 of three. */
    private static final int MOST_SETS = 299;
    private static final int MOST_BEYOND = 1000;
    private static final int MOST_LOST = 2000;
    private static final int THING_KINDS = 6;
    private static final int MAPS = 2;

    /** What `of` answers for NUMBER: -1 may be a place's own number. */
    private static final int NO_SUCH = -2000;

    private static final int SHIFT = 0;
    private static final int TURNED = 1;
    private static final int SHRUNK = 2;

    /** Euclid needs at most 92 steps for two longs. */
    private static final int MOST_STEPS = 100;

    private final Table table;
    private final Table kept;
    private final Bend theBend;
    private final Match theMatch;
    private boolean anyKept;
    private int beyondLimit;
    private int lostCost;

    public OldMap() {
        table = new Table();
        kept = new Table();
        theBend = new Bend(table.points);
        theMatch = new Match(table.oldThings, table.newThings, theBend);
        anyKept = false;
        beyondLimit = 10;
        lostCost = 100;
    }

    // ---- points

    public int point(int x, int y, int newX, int newY) {
        if (!isPlace(x, y) || !isPlace(newX, newY)) {
            return NUMBER;
        }
        return table.points.add(x, y, newX, newY);
    }

    public int move(int point, int map, int x, int y) {
        if (!table.points.has(point) || !isMap(map) || !isPlace(x, y)) {
            return NUMBER;
        }
        table.points.place(point, map, x, y);
        return 1;
    }

    public int sure(int point, boolean is) {
        Points points = table.points;
        if (!points.has(point)) {
            return NUMBER;
        }
        int before = points.sureBits;
        points.sureBits = withBit(before, point, is);
        return points.sureBits == before ? 0 : 1;
    }

    public int put(int point, boolean in) {
        Points points = table.points;
        if (!points.has(point)) {
            return NUMBER;
        }
        int before = points.inBits;
        points.inBits = withBit(before, point, in);
        return points.inBits == before ? 0 : 1;
    }

    public int of(int point, int what) {
        Points points = table.points;
        if (!points.has(point) || what < 0 || what > 5) {
            return NO_SUCH;
        }
        if (what == 4) {
            return points.sureBits >> point & 1;
        }
        if (what == 5) {
            return points.inBits >> point & 1;
        }
        return points.at[what][point];
    }

    // ---- bends

    public long bend(int kind, int what) {
        if (!isKind(kind) || what < 0 || what > 7 || !fits(kind)) {
            return NOTHING;
        }
        int part = what % 2;
        Way toX = theBend.toX;
        Way toY = theBend.toY;
        switch (what / 2) {
            case 0:
                return cleared(toX.plus, toX.below, part);
            case 1:
                return cleared(toY.plus, toY.below, part);
            case 2:
                return cleared(toX.byX, toX.below, part);
            default:
                return cleared(theBend.aboveOfQ(), toY.below, part);
        }
    }

    public long carry(int kind, int x, int y, int what) {
        if (!isKind(kind) || !isPlace(x, y) || !isPartOfTwo(what) || !fits(kind)) {
            return NOTHING;
        }
        Way way = theBend.along(what / 2);
        return cleared(way.above(x, y), way.below, what % 2);
    }

    public long off(int kind, int point, int what) {
        if (!table.points.has(point) || !isKind(kind) || !isPartOfTwo(what) || !fits(kind)) {
            return NOTHING;
        }
        int axis = what / 2;
        return cleared(theBend.offAbove(axis, point), theBend.along(axis).below, what % 2);
    }

    public long miss(int kind, int what) {
        int last = kind == SHRUNK ? 3 : 1;
        if (!isKind(kind) || what < 0 || what > last || !fits(kind)) {
            return NOTHING;
        }
        int axis = what / 2;
        return cleared(theBend.missAbove(axis), theBend.along(axis).below, what % 2);
    }

    public int beyond(int kind) {
        if (!isKind(kind)) {
            return NUMBER;
        }
        return fits(kind) ? theBend.firstBeyond(beyondLimit) : FEW;
    }

    public int lying(int kind) {
        return lyingSet(kind);
    }

    public int drop(int kind) {
        int set = lyingSet(kind);
        if (set < 0) {
            return set;
        }
        table.points.inBits &= ~set;
        return Integer.bitCount(set);
    }

    public int rule(int what, int v) {
        if (what == 0 && v >= 0 && v <= MOST_BEYOND) {
            int before = beyondLimit;
            beyondLimit = v;
            return before;
        }
        if (what == 1 && v >= 0 && v <= MOST_LOST) {
            int before = lostCost;
            lostCost = v;
            return before;
        }
        return NUMBER;
    }

    // ---- triangles

    public int triangle(int p, int q, int r) {
        Points points = table.points;
        if (!points.has(p) || !points.has(q) || !points.has(r) || p == q || p == r || q == r) {
            return NUMBER;
        }
        if (points.turn(0, p, q, r) == 0 || points.turn(1, p, q, r) == 0) {
            return FLAT;
        }
        return table.triangles.add(p, q, r);
    }

    public int state(int triangle) {
        Triangles triangles = table.triangles;
        if (!triangles.has(triangle)) {
            return NUMBER;
        }
        if (triangles.isFlat(triangle)) {
            return 2;
        }
        return triangles.isOver(triangle) ? 1 : 0;
    }

    public int within(int map, int x, int y) {
        if (!isMap(map) || !isPlace(x, y)) {
            return NUMBER;
        }
        return table.triangles.firstAround(map, x, y);
    }

    public long carried(int triangle, int map, int x, int y, int what) {
        Triangles triangles = table.triangles;
        if (!triangles.has(triangle) || !isMap(map) || !isPlace(x, y) || !isPartOfTwo(what)
                || triangles.isFlat(triangle)) {
            return NOTHING;
        }
        long above = triangles.bentAbove(triangle, map, x, y, what / 2);
        return cleared(above, triangles.turn(triangle, map), what % 2);
    }

    public int meet(int t, int u, int map) {
        Triangles triangles = table.triangles;
        if (!triangles.has(t) || !triangles.has(u) || !isMap(map) || t == u) {
            return NUMBER;
        }
        if (triangles.isFlat(t) || triangles.isFlat(u)) {
            return FLAT;
        }
        return triangles.overlap(t, u, map) ? 1 : 0;
    }

    public int area(int triangle, int map) {
        if (!table.triangles.has(triangle) || !isMap(map)) {
            return NUMBER;
        }
        return Math.abs(table.triangles.turn(triangle, map));
    }

    // ---- things

    public int thing(int map, int kind, int x, int y) {
        if (!isMap(map) || kind < 0 || kind >= THING_KINDS || !isPlace(x, y)) {
            return NUMBER;
        }
        return table.thingsOf(map).add(kind, x, y);
    }

    public int sweep(int map) {
        if (!isMap(map)) {
            return NUMBER;
        }
        Things things = table.thingsOf(map);
        int before = things.count;
        things.count = 0;
        return before;
    }

    public int match(int kind, int old) {
        if (!isKind(kind) || !table.oldThings.has(old)) {
            return NUMBER;
        }
        if (!fits(kind)) {
            return FEW;
        }
        theMatch.find(lostCost);
        return theMatch.given[old];
    }

    public int cost(int kind) {
        if (!isKind(kind)) {
            return NUMBER;
        }
        if (!fits(kind)) {
            return FEW;
        }
        theMatch.find(lostCost);
        return theMatch.leastCost();
    }

    public int left(int kind) {
        if (!isKind(kind)) {
            return NUMBER;
        }
        if (!fits(kind)) {
            return FEW;
        }
        theMatch.find(lostCost);
        return theMatch.firstUnused();
    }

    public int many(int what) {
        Triangles triangles = table.triangles;
        switch (what) {
            case 0:
                return table.points.count;
            case 1:
                return Integer.bitCount(table.points.counting());
            case 2:
                return triangles.count;
            case 3:
                return triangles.manyOver();
            case 4:
                return triangles.manyFlat();
            case 5:
                return table.oldThings.count;
            case 6:
                return table.newThings.count;
            case 7:
                return triangles.manyOverlaps(0);
            case 8:
                return triangles.manyOverlaps(1);
            default:
                return NUMBER;
        }
    }

    // ---- kept

    public int keep() {
        kept.copyFrom(table);
        anyKept = true;
        return 1;
    }

    public int back() {
        if (!anyKept) {
            return NONE;
        }
        table.copyFrom(kept);
        return 1;
    }

    // ---- what may be asked

    private static boolean isPlace(int x, int y) {
        return x >= -FARTHEST && x <= FARTHEST && y >= -FARTHEST && y <= FARTHEST;
    }

    private static boolean isMap(int map) {
        return map >= 0 && map < MAPS;
    }

    private static boolean isKind(int kind) {
        return kind >= SHIFT && kind <= SHRUNK;
    }

    /** Two fractions are told in four parts: above and below of the first, then of the second. */
    private static boolean isPartOfTwo(int what) {
        return what >= 0 && what <= 3;
    }

    // ---- helpers

    private static int withBit(int bits, int bit, boolean on) {
        return on ? bits | 1 << bit : bits & ~(1 << bit);
    }

    /** One part (0 above, 1 below the line) of a fraction that is cleared, its below above 0. */
    private static long cleared(long above, long below, int part) {
        long common = commonDivisor(Math.abs(above), Math.abs(below));
        if (below == 0 || common == 0) {
            return NOTHING;
        }
        long told = (part == 0 ? above : below) / common;
        return below < 0 ? -told : told;
    }

    private static long commonDivisor(long a, long b) {
        long greater = a;
        long lesser = b;
        for (int step = 0; step < MOST_STEPS && lesser != 0; step++) {
            long rest = greater % lesser;
            greater = lesser;
            lesser = rest;
        }
        return greater;
    }

    /** Fits THE BEND of a kind to the POINTS that COUNT now: false if they don't SUFFICE. */
    private boolean fits(int kind) {
        return theBend.fit(kind, table.points.counting());
    }

    private int lyingSet(int kind) {
        if (!isKind(kind)) {
            return NUMBER;
        }
        if (!fits(kind)) {
            return FEW;
        }
        int counting = table.points.counting();
        int set = 0;
        for (int tried = 0; tried < MOST_SETS; tried++) {
            if ((set & ~counting) == 0 && agreeWithout(kind, set)) {
                return set;
            }
            set = nextSet(set);
        }
        return NONE;
    }

    private boolean agreeWithout(int kind, int set) {
        return theBend.fit(kind, table.points.counting() & ~set)
                && theBend.firstBeyond(beyondLimit) == NONE;
    }

    /** The sets of POINTS follow one another from the fewest to more, and then from the least. */
    private static int nextSet(int set) {
        int size = Integer.bitCount(set);
        int lastOfSize = (1 << size) - 1 << MOST_POINTS - size;
        return set == lastOfSize ? (1 << size + 1) - 1 : nextOfSameSize(set);
    }

    /**
     * The next greater set (above 0) with as many bits: the top of its lowest run of bits moves up
     * by one, the others of the run fall to the bottom.
     */
    private static int nextOfSameSize(int set) {
        int lowest = set & -set;
        int moved = set + lowest;
        int fallen = Integer.bitCount(set & ~moved) - 1;
        return moved | (1 << fallen) - 1;
    }

    /** All that `keep` keeps. */
    private static final class Table {
        private final Points points = new Points();
        private final Triangles triangles = new Triangles(points);
        private final Things oldThings = new Things();
        private final Things newThings = new Things();

        private Things thingsOf(int map) {
            return map == 0 ? oldThings : newThings;
        }

        private void copyFrom(Table other) {
            points.copyFrom(other.points);
            triangles.copyFrom(other.triangles);
            oldThings.copyFrom(other.oldThings);
            newThings.copyFrom(other.newThings);
        }
    }

    private static final class Points {
        private static final int ROWS = 4;

        private int count = 0;
        /** Rows 0 to 3: x, y, X, Y; those of a map begin at twice its number. */
        private final int[][] at = new int[ROWS][MOST_POINTS];
        private int sureBits = 0;
        private int inBits = 0;

        private boolean has(int point) {
            return point >= 0 && point < count;
        }

        private int add(int x, int y, int newX, int newY) {
            if (count >= MOST_POINTS) {
                return FULL;
            }
            int point = count;
            count++;
            place(point, 0, x, y);
            place(point, 1, newX, newY);
            sureBits = withBit(sureBits, point, true);
            inBits = withBit(inBits, point, true);
            return point;
        }

        private void place(int point, int map, int x, int y) {
            at[2 * map][point] = x;
            at[2 * map + 1][point] = y;
        }

        /** The POINTS that COUNT, as bits. */
        private int counting() {
            return sureBits & inBits;
        }

        /**
         * On which side of the line from POINT a to POINT b a place of a map lies: above 0 on the
         * one, below 0 on the other, 0 on the line.
         */
        private int side(int map, int a, int b, int x, int y) {
            int[] xs = at[2 * map];
            int[] ys = at[2 * map + 1];
            return (xs[b] - xs[a]) * (y - ys[a]) - (ys[b] - ys[a]) * (x - xs[a]);
        }

        /** Twice the area within three POINTS on a map; its sign is the way round. */
        private int turn(int map, int a, int b, int c) {
            return side(map, a, b, at[2 * map][c], at[2 * map + 1][c]);
        }

        private void copyFrom(Points other) {
            count = other.count;
            sureBits = other.sureBits;
            inBits = other.inBits;
            for (int row = 0; row < ROWS; row++) {
                System.arraycopy(other.at[row], 0, at[row], 0, MOST_POINTS);
            }
        }
    }

    /** One number of where a bend carries a place to: (byX x + byY y + plus) / below. */
    private static final class Way {
        private long byX = 0;
        private long byY = 0;
        private long plus = 0;
        private long below = 1;

        private void set(long newByX, long newByY, long newPlus, long newBelow) {
            byX = newByX;
            byY = newByY;
            plus = newPlus;
            below = newBelow;
        }

        private long above(long x, long y) {
            return byX * x + byY * y + plus;
        }

        /** The nearest whole number, halves upwards. */
        private long rounded(long x, long y) {
            return below > 0 ? Math.floorDiv(2 * above(x, y) + below, 2 * below) : 0;
        }
    }

    /** THE BEND of a kind, fitted to some of the POINTS. */
    private static final class Bend {
        private final Points points;
        private final Way toX = new Way();
        private final Way toY = new Way();
        private final long[] sums = new long[Points.ROWS];
        private int kind = SHIFT;
        private int fittedBits = 0;
        private long n = 0;

        private Bend(Points thePoints) {
            points = thePoints;
        }

        /** False if the POINTS in the bits don't SUFFICE: then there is no bend to ask. */
        private boolean fit(int newKind, int bits) {
            kind = newKind;
            fittedBits = bits;
            n = Integer.bitCount(bits);
            for (int row = 0; row < Points.ROWS; row++) {
                sums[row] = sumOf(row);
            }
            switch (kind) {
                case SHIFT:
                    return fitShift();
                case TURNED:
                    return fitTurned();
                default:
                    return fitShrunk(0, toX) && fitShrunk(1, toY);
            }
        }

        private boolean fitShift() {
            toX.set(n, 0, sums[2] - sums[0], n);
            toY.set(0, n, sums[3] - sums[1], n);
            return n > 0;
        }

        private boolean fitTurned() {
            long d = spread(0, 0) + spread(1, 1);
            long p = spread(0, 2) + spread(1, 3);
            long q = spread(0, 3) - spread(1, 2);
            toX.set(n * p, -n * q, d * sums[2] - p * sums[0] + q * sums[1], n * d);
            toY.set(n * q, n * p, d * sums[3] - q * sums[0] - p * sums[1], n * d);
            return d > 0;
        }

        private boolean fitShrunk(int axis, Way way) {
            long d = spread(axis, axis);
            long p = spread(axis, axis + 2);
            long byX = axis == 0 ? n * p : 0;
            long byY = axis == 0 ? 0 : n * p;
            way.set(byX, byY, d * sums[axis + 2] - p * sums[axis], n * d);
            return d > 0;
        }

        private long sumOf(int row) {
            int[] numbers = points.at[row];
            long sum = 0;
            for (int k = 0; k < MOST_POINTS; k++) {
                if ((fittedBits >> k & 1) == 1) {
                    sum += numbers[k];
                }
            }
            return sum;
        }

        /** n times the sum of the products of two rows, both less their means: a whole number. */
        private long spread(int row, int other) {
            int[] ones = points.at[row];
            int[] others = points.at[other];
            long sum = 0;
            for (int k = 0; k < MOST_POINTS; k++) {
                if ((fittedBits >> k & 1) == 1) {
                    sum += ones[k] * others[k];
                }
            }
            return n * sum - sums[row] * sums[other];
        }

        private Way along(int axis) {
            return axis == 0 ? toX : toY;
        }

        /** What stands above toY's below for q; that for p is toX.byX in all kinds. */
        private long aboveOfQ() {
            switch (kind) {
                case SHIFT:
                    return 0;
                case TURNED:
                    return toY.byX;
                default:
                    return toY.byY;
            }
        }

        /** What stands above the way's below for OFF of a POINT along x (axis 0) or y (1). */
        private long offAbove(int axis, int point) {
            Way way = along(axis);
            long due = points.at[axis + 2][point];
            return due * way.below - way.above(points.at[0][point], points.at[1][point]);
        }

        /** What stands above the way's below for MISS; the axis is asked of SHRUNK alone. */
        private long missAbove(int axis) {
            switch (kind) {
                case SHIFT:
                    return shiftMiss(0) + shiftMiss(1);
                case TURNED:
                    return turnedMiss();
                default:
                    long slope = spread(axis, axis + 2);
                    return spread(axis, axis) * spread(axis + 2, axis + 2) - slope * slope;
            }
        }

        private long shiftMiss(int axis) {
            return spread(axis, axis) - 2 * spread(axis, axis + 2) + spread(axis + 2, axis + 2);
        }

        private long turnedMiss() {
            long oldSpread = spread(0, 0) + spread(1, 1);
            long newSpread = spread(2, 2) + spread(3, 3);
            long p = spread(0, 2) + spread(1, 3);
            long q = spread(0, 3) - spread(1, 2);
            return oldSpread * newSpread - p * p - q * q;
        }

        /** The least of the fitted POINTS that is OFF by more than the limit, or NONE. */
        private int firstBeyond(int limit) {
            for (int k = 0; k < MOST_POINTS; k++) {
                if ((fittedBits >> k & 1) == 1 && (isFarOff(0, k, limit) || isFarOff(1, k, limit))) {
                    return k;
                }
            }
            return NONE;
        }

        private boolean isFarOff(int axis, int point, int limit) {
            return Math.abs(offAbove(axis, point)) > limit * along(axis).below;
        }
    }

    private static final class Triangles {
        private static final int CORNERS = 3;

        private final Points points;
        private int count = 0;
        private final int[][] corner = new int[MOST_TRIANGLES][CORNERS];

        private Triangles(Points thePoints) {
            points = thePoints;
        }

        private boolean has(int triangle) {
            return triangle >= 0 && triangle < count;
        }

        private int add(int p, int q, int r) {
            if (count >= MOST_TRIANGLES) {
                return FULL;
            }
            int triangle = count;
            count++;
            corner[triangle][0] = p;
            corner[triangle][1] = q;
            corner[triangle][2] = r;
            return triangle;
        }

        private int turn(int triangle, int map) {
            int[] c = corner[triangle];
            return points.turn(map, c[0], c[1], c[2]);
        }

        private boolean isFlat(int triangle) {
            return turn(triangle, 0) == 0 || turn(triangle, 1) == 0;
        }

        private boolean isOver(int triangle) {
            long before = turn(triangle, 0);
            return before * turn(triangle, 1) < 0;
        }

        /**
         * Above 0 if a place lies on the inner side of a triangle's side, 0 if on its line. The
         * triangle's turn on the map is given, as it is the same for all sides and places.
         */
        private long inward(int triangle, int map, long ownTurn, int from, int x, int y) {
            int[] c = corner[triangle];
            return ownTurn * points.side(map, c[from], c[(from + 1) % CORNERS], x, y);
        }

        private boolean holds(int triangle, int map, int x, int y) {
            long ownTurn = turn(triangle, map);
            for (int from = 0; from < CORNERS; from++) {
                if (inward(triangle, map, ownTurn, from, x, y) < 0) {
                    return false;
                }
            }
            return true;
        }

        private int firstAround(int map, int x, int y) {
            for (int t = 0; t < count; t++) {
                if (!isFlat(t) && holds(t, map, x, y)) {
                    return t;
                }
            }
            return NONE;
        }

        /**
         * What stands above `turn` on the place's map for one number (axis 0 or 1) of where a
         * place is CARRIED to on the other map: s and t have that turn below their lines.
         */
        private long bentAbove(int triangle, int map, int x, int y, int axis) {
            int[] c = corner[triangle];
            int[] to = points.at[2 * (1 - map) + axis];
            long first = to[c[0]];
            long s = points.side(map, c[2], c[0], x, y);
            long t = points.side(map, c[0], c[1], x, y);
            return first * turn(triangle, map) + s * (to[c[1]] - first) + t * (to[c[2]] - first);
        }

        /** Two that aren't FLAT share no inner place just if a side of one has the other outside. */
        private boolean overlap(int t, int u, int map) {
            return !isParted(t, u, map) && !isParted(u, t, map);
        }

        private boolean isParted(int t, int u, int map) {
            long ownTurn = turn(t, map);
            for (int from = 0; from < CORNERS; from++) {
                if (isOutside(t, map, ownTurn, from, corner[u])) {
                    return true;
                }
            }
            return false;
        }

        private boolean isOutside(int t, int map, long ownTurn, int from, int[] others) {
            int[] xs = points.at[2 * map];
            int[] ys = points.at[2 * map + 1];
            for (int other : others) {
                if (inward(t, map, ownTurn, from, xs[other], ys[other]) > 0) {
                    return false;
                }
            }
            return true;
        }

        private int manyOver() {
            int sum = 0;
            for (int t = 0; t < count; t++) {
                sum += isOver(t) ? 1 : 0;
            }
            return sum;
        }

        private int manyFlat() {
            int sum = 0;
            for (int t = 0; t < count; t++) {
                sum += isFlat(t) ? 1 : 0;
            }
            return sum;
        }

        private int manyOverlaps(int map) {
            int sum = 0;
            for (int t = 0; t < count; t++) {
                for (int u = t + 1; u < count; u++) {
                    sum += !isFlat(t) && !isFlat(u) && overlap(t, u, map) ? 1 : 0;
                }
            }
            return sum;
        }

        private void copyFrom(Triangles other) {
            count = other.count;
            for (int t = 0; t < MOST_TRIANGLES; t++) {
                System.arraycopy(other.corner[t], 0, corner[t], 0, CORNERS);
            }
        }
    }

    /** The THINGS of one map. */
    private static final class Things {
        private int count = 0;
        private final int[] kind = new int[MOST_THINGS];
        private final int[] x = new int[MOST_THINGS];
        private final int[] y = new int[MOST_THINGS];

        private boolean has(int thing) {
            return thing >= 0 && thing < count;
        }

        private int add(int newKind, int newX, int newY) {
            if (count >= MOST_THINGS) {
                return FULL;
            }
            int thing = count;
            count++;
            kind[thing] = newKind;
            x[thing] = newX;
            y[thing] = newY;
            return thing;
        }

        private void copyFrom(Things other) {
            count = other.count;
            System.arraycopy(other.kind, 0, kind, 0, MOST_THINGS);
            System.arraycopy(other.x, 0, x, 0, MOST_THINGS);
            System.arraycopy(other.y, 0, y, 0, MOST_THINGS);
        }
    }

    /** THE MATCH by a bend that is fitted. Sets of new THINGS are held as bits. */
    private static final class Match {
        private static final int UNLIKE = -1;

        private final Things olds;
        private final Things news;
        private final Bend bend;
        /** How far apart an old THING, carried, and a new one are; UNLIKE if their kinds are. */
        private final int[][] apart = new int[MOST_THINGS][MOST_THINGS];
        /** What the old THINGS from the first index on cost at least, if the set is used already. */
        private final int[][] least = new int[MOST_THINGS + 1][1 << MOST_THINGS];
        private final int[] given = new int[MOST_THINGS];
        private int used = 0;

        private Match(Things oldThings, Things newThings, Bend theBend) {
            olds = oldThings;
            news = newThings;
            bend = theBend;
        }

        private void find(int lost) {
            for (int old = 0; old < olds.count; old++) {
                measure(old);
            }
            fillLeast(lost);
            give();
        }

        private void measure(int old) {
            long x = bend.toX.rounded(olds.x[old], olds.y[old]);
            long y = bend.toY.rounded(olds.x[old], olds.y[old]);
            for (int other = 0; other < news.count; other++) {
                long far = Math.abs(x - news.x[other]) + Math.abs(y - news.y[other]);
                apart[old][other] = olds.kind[old] == news.kind[other] ? (int) far : UNLIKE;
            }
        }

        private void fillLeast(int lost) {
            int sets = 1 << news.count;
            for (int set = 0; set < sets; set++) {
                least[olds.count][set] = 0;
            }
            for (int old = olds.count - 1; old >= 0; old--) {
                for (int set = 0; set < sets; set++) {
                    least[old][set] = leastFrom(old, set, lost);
                }
            }
        }

        private int leastFrom(int old, int set, int lost) {
            int best = lost + least[old + 1][set];
            for (int other = 0; other < news.count; other++) {
                if (isFree(old, other, set)) {
                    best = Math.min(best, costWith(old, other, set));
                }
            }
            return best;
        }

        private boolean isFree(int old, int other, int set) {
            return (set >> other & 1) == 0 && apart[old][other] != UNLIKE;
        }

        private int costWith(int old, int other, int set) {
            return apart[old][other] + least[old + 1][set | 1 << other];
        }

        /** Old THINGS choose in their order, each the first new one that keeps the cost least. */
        private void give() {
            used = 0;
            for (int old = 0; old < olds.count; old++) {
                given[old] = firstBest(old);
                if (given[old] != NONE) {
                    used |= 1 << given[old];
                }
            }
        }

        private int firstBest(int old) {
            for (int other = 0; other < news.count; other++) {
                if (isFree(old, other, used) && costWith(old, other, used) == least[old][used]) {
                    return other;
                }
            }
            return NONE;
        }

        private int leastCost() {
            return least[0][0];
        }

        private int firstUnused() {
            for (int other = 0; other < news.count; other++) {
                if ((used >> other & 1) == 0) {
                    return other;
                }
            }
            return NONE;
        }
    }
}
