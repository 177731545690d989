import java.math.BigInteger;
import java.util.ArrayList;
import java.util.List;

/**
 * The document once more, as slowly and as literally as may be, to compare with: fractions of
 * BigIntegers, normal equations solved by elimination, all sets and all matches tried, triangles
 * cut with one another. It shares no formula with OldMap.
 */
final class OldMapModel {
    static final long NOTHING = -4000000000000000000L;

    /** A fraction, cleared. */
    static final class Q {
        static final Q ZERO = new Q(BigInteger.ZERO, BigInteger.ONE);
        static final Q ONE = new Q(BigInteger.ONE, BigInteger.ONE);
        final BigInteger above;
        final BigInteger below;

        Q(BigInteger a, BigInteger b) {
            BigInteger g = a.gcd(b);
            BigInteger s = b.signum() < 0 ? g.negate() : g;
            above = a.divide(s);
            below = b.divide(s);
        }

        static Q of(long v) {
            return new Q(BigInteger.valueOf(v), BigInteger.ONE);
        }

        Q plus(Q o) {
            return new Q(above.multiply(o.below).add(o.above.multiply(below)), below.multiply(o.below));
        }

        Q minus(Q o) {
            return plus(o.times(Q.of(-1)));
        }

        Q times(Q o) {
            return new Q(above.multiply(o.above), below.multiply(o.below));
        }

        Q over(Q o) {
            return new Q(above.multiply(o.below), below.multiply(o.above));
        }

        int sign() {
            return above.signum();
        }

        Q size() {
            return sign() < 0 ? times(Q.of(-1)) : this;
        }

        long part(int part) {
            return (part == 0 ? above : below).longValueExact();
        }

        /** Halves upwards: the greatest whole number that is not above this and a half. */
        long rounded() {
            Q half = plus(new Q(BigInteger.ONE, BigInteger.TWO));
            BigInteger[] d = half.above.divideAndRemainder(half.below);
            return (d[1].signum() < 0 ? d[0].subtract(BigInteger.ONE) : d[0]).longValueExact();
        }
    }

    static final class State {
        final List<int[]> points = new ArrayList<>();
        final List<int[]> triangles = new ArrayList<>();
        final List<List<int[]>> things = List.of(new ArrayList<>(), new ArrayList<>());

        State copy() {
            State s = new State();
            points.forEach(p -> s.points.add(p.clone()));
            triangles.forEach(t -> s.triangles.add(t.clone()));
            for (int m = 0; m < 2; m++) {
                for (int[] t : things.get(m)) {
                    s.things.get(m).add(t.clone());
                }
            }
            return s;
        }
    }

    State now = new State();
    State kept = null;
    int limit = 10;
    int lost = 100;

    static boolean far(int... numbers) {
        for (int n : numbers) {
            if (n < -1000 || n > 1000) {
                return true;
            }
        }
        return false;
    }

    static boolean not(int v, int most) {
        return v < 0 || v > most;
    }

    boolean noPoint(int p) {
        return not(p, now.points.size() - 1);
    }

    boolean noTriangle(int t) {
        return not(t, now.triangles.size() - 1);
    }

    int point(int x, int y, int newX, int newY) {
        if (far(x, y, newX, newY)) {
            return -1;
        }
        if (now.points.size() == 12) {
            return -2;
        }
        now.points.add(new int[] {x, y, newX, newY, 1, 1});
        return now.points.size() - 1;
    }

    int move(int point, int map, int x, int y) {
        if (noPoint(point) || not(map, 1) || far(x, y)) {
            return -1;
        }
        int[] p = now.points.get(point);
        if (map == 0) {
            p[0] = x;
            p[1] = y;
        } else {
            p[2] = x;
            p[3] = y;
        }
        return 1;
    }

    private int flag(int point, int what, boolean on) {
        if (noPoint(point)) {
            return -1;
        }
        int was = now.points.get(point)[what];
        now.points.get(point)[what] = on ? 1 : 0;
        return (was == 1) == on ? 0 : 1;
    }

    int sure(int point, boolean is) {
        return flag(point, 4, is);
    }

    int put(int point, boolean in) {
        return flag(point, 5, in);
    }

    int of(int point, int what) {
        return noPoint(point) || not(what, 5) ? -2000 : now.points.get(point)[what];
    }

    List<int[]> counting() {
        List<int[]> list = new ArrayList<>();
        for (int[] p : now.points) {
            if (p[4] == 1 && p[5] == 1) {
                list.add(p);
            }
        }
        return list;
    }

    static boolean suffice(int kind, List<int[]> points) {
        boolean unlikeX = false;
        boolean unlikeY = false;
        for (int[] p : points) {
            for (int[] o : points) {
                unlikeX |= p[0] != o[0];
                unlikeY |= p[1] != o[1];
            }
        }
        switch (kind) {
            case 0:
                return !points.isEmpty();
            case 1:
                return unlikeX || unlikeY;
            default:
                return unlikeX && unlikeY;
        }
    }

    /** How much of a, b, p, q is in the number (axis 0: X, 1: Y) that a place goes to. */
    static long[] shares(int kind, int axis, int x, int y) {
        long a = axis == 0 ? 1 : 0;
        if (kind == 1) {
            return axis == 0 ? new long[] {1, 0, x, -y} : new long[] {0, 1, y, x};
        }
        return axis == 0 ? new long[] {1, 0, x, 0} : new long[] {0, 1, 0, y};
    }

    /** a, b, p, q of THE BEND; null if POINTS don't SUFFICE. */
    static Q[] bendOf(int kind, List<int[]> points) {
        if (!suffice(kind, points)) {
            return null;
        }
        int size = kind == 0 ? 2 : 4;
        Q[][] m = new Q[size][size + 1];
        for (Q[] row : m) {
            java.util.Arrays.fill(row, Q.ZERO);
        }
        for (int[] p : points) {
            for (int axis = 0; axis < 2; axis++) {
                long[] s = shares(kind, axis, p[0], p[1]);
                long due = kind == 0 ? p[2 + axis] - p[axis] : p[2 + axis];
                for (int i = 0; i < size; i++) {
                    for (int j = 0; j < size; j++) {
                        m[i][j] = m[i][j].plus(Q.of(s[i] * s[j]));
                    }
                    m[i][size] = m[i][size].plus(Q.of(s[i] * due));
                }
            }
        }
        Q[] v = solve(m);
        return kind == 0 ? new Q[] {v[0], v[1], Q.ONE, Q.ZERO} : v;
    }

    static Q[] solve(Q[][] m) {
        int n = m.length;
        for (int c = 0; c < n; c++) {
            int pivot = c;
            while (m[pivot][c].sign() == 0) {
                pivot++;
            }
            Q[] swap = m[c];
            m[c] = m[pivot];
            m[pivot] = swap;
            for (int r = 0; r < n; r++) {
                if (r != c && m[r][c].sign() != 0) {
                    Q f = m[r][c].over(m[c][c]);
                    for (int k = c; k <= n; k++) {
                        m[r][k] = m[r][k].minus(f.times(m[c][k]));
                    }
                }
            }
        }
        Q[] v = new Q[n];
        for (int i = 0; i < n; i++) {
            v[i] = m[i][n].over(m[i][i]);
        }
        return v;
    }

    static Q goesTo(int kind, Q[] bend, int axis, int x, int y) {
        if (kind == 0) {
            return Q.of(axis == 0 ? x : y).plus(bend[axis]);
        }
        long[] s = shares(kind, axis, x, y);
        Q sum = Q.ZERO;
        for (int i = 0; i < 4; i++) {
            sum = sum.plus(Q.of(s[i]).times(bend[i]));
        }
        return sum;
    }

    static Q offOf(int kind, Q[] bend, int axis, int[] p) {
        return Q.of(p[2 + axis]).minus(goesTo(kind, bend, axis, p[0], p[1]));
    }

    long bend(int kind, int what) {
        if (not(kind, 2) || not(what, 7)) {
            return NOTHING;
        }
        Q[] b = bendOf(kind, counting());
        return b == null ? NOTHING : b[what / 2].part(what % 2);
    }

    long carry(int kind, int x, int y, int what) {
        if (not(kind, 2) || far(x, y) || not(what, 3)) {
            return NOTHING;
        }
        Q[] b = bendOf(kind, counting());
        return b == null ? NOTHING : goesTo(kind, b, what / 2, x, y).part(what % 2);
    }

    long off(int kind, int point, int what) {
        if (not(kind, 2) || noPoint(point) || not(what, 3)) {
            return NOTHING;
        }
        Q[] b = bendOf(kind, counting());
        return b == null ? NOTHING : offOf(kind, b, what / 2, now.points.get(point)).part(what % 2);
    }

    long miss(int kind, int what) {
        if (not(kind, 2) || not(what, kind == 2 ? 3 : 1)) {
            return NOTHING;
        }
        Q[] b = bendOf(kind, counting());
        if (b == null) {
            return NOTHING;
        }
        Q sum = Q.ZERO;
        for (int[] p : counting()) {
            for (int axis = 0; axis < 2; axis++) {
                if (kind != 2 || axis == what / 2) {
                    Q off = offOf(kind, b, axis, p);
                    sum = sum.plus(off.times(off));
                }
            }
        }
        return sum.part(what % 2);
    }

    /** The number of the first POINT of those in the bits that is BEYOND; -5 none, -3 FEW. */
    int firstBeyond(int kind, int bits) {
        List<int[]> some = new ArrayList<>();
        for (int k = 0; k < now.points.size(); k++) {
            if ((bits & 1 << k) != 0) {
                some.add(now.points.get(k));
            }
        }
        Q[] b = bendOf(kind, some);
        if (b == null) {
            return -3;
        }
        for (int[] p : some) {
            for (int axis = 0; axis < 2; axis++) {
                if (offOf(kind, b, axis, p).size().minus(Q.of(limit)).sign() > 0) {
                    return now.points.indexOf(p);
                }
            }
        }
        return -5;
    }

    int countingBits() {
        int bits = 0;
        for (int k = 0; k < now.points.size(); k++) {
            if (now.points.get(k)[4] == 1 && now.points.get(k)[5] == 1) {
                bits += 1 << k;
            }
        }
        return bits;
    }

    int beyond(int kind) {
        return not(kind, 2) ? -1 : firstBeyond(kind, countingBits());
    }

    int lying(int kind) {
        if (not(kind, 2)) {
            return -1;
        }
        if (!suffice(kind, counting())) {
            return -3;
        }
        int all = countingBits();
        for (int size = 0; size <= 3; size++) {
            for (int set = 0; set < 4096; set++) {
                if ((set | all) == all && Integer.bitCount(set) == size
                        && firstBeyond(kind, all - set) == -5) {
                    return set;
                }
            }
        }
        return -5;
    }

    int drop(int kind) {
        int set = lying(kind);
        int sum = set;
        if (set >= 0) {
            sum = 0;
            for (int k = 0; k < 12; k++) {
                if ((set & 1 << k) != 0) {
                    now.points.get(k)[5] = 0;
                    sum++;
                }
            }
        }
        return sum;
    }

    int rule(int what, int v) {
        if (not(what, 1) || not(v, what == 0 ? 1000 : 2000)) {
            return -1;
        }
        int was = what == 0 ? limit : lost;
        if (what == 0) {
            limit = v;
        } else {
            lost = v;
        }
        return was;
    }

    Q[] place(int point, int map) {
        int[] p = now.points.get(point);
        return new Q[] {Q.of(p[2 * map]), Q.of(p[2 * map + 1])};
    }

    Q[][] corners(int[] t, int map) {
        return new Q[][] {place(t[0], map), place(t[1], map), place(t[2], map)};
    }

    /** Twice the signed area of any polygon, by the shoelace. */
    static Q twice(List<Q[]> c) {
        Q sum = Q.ZERO;
        for (int i = 0; i < c.size(); i++) {
            Q[] a = c.get(i);
            Q[] b = c.get((i + 1) % c.size());
            sum = sum.plus(a[0].times(b[1])).minus(a[1].times(b[0]));
        }
        return sum;
    }

    static Q twice(Q[][] c) {
        return twice(List.of(c));
    }

    boolean flat(int[] t) {
        return twice(corners(t, 0)).sign() == 0 || twice(corners(t, 1)).sign() == 0;
    }

    int triangle(int p, int q, int r) {
        if (noPoint(p) || noPoint(q) || noPoint(r) || p == q || q == r || p == r) {
            return -1;
        }
        int[] t = {p, q, r};
        if (flat(t)) {
            return -4;
        }
        if (now.triangles.size() == 10) {
            return -2;
        }
        now.triangles.add(t);
        return now.triangles.size() - 1;
    }

    int state(int triangle) {
        if (noTriangle(triangle)) {
            return -1;
        }
        int[] t = now.triangles.get(triangle);
        int both = twice(corners(t, 0)).sign() * twice(corners(t, 1)).sign();
        return both == 0 ? 2 : both < 0 ? 1 : 0;
    }

    /** s and t of a place in a triangle. */
    static Q[] lies(Q[][] c, Q x, Q y) {
        Q ax = c[1][0].minus(c[0][0]);
        Q ay = c[1][1].minus(c[0][1]);
        Q bx = c[2][0].minus(c[0][0]);
        Q by = c[2][1].minus(c[0][1]);
        return solve(new Q[][] {{ax, bx, x.minus(c[0][0])}, {ay, by, y.minus(c[0][1])}});
    }

    int within(int map, int x, int y) {
        if (not(map, 1) || far(x, y)) {
            return -1;
        }
        for (int i = 0; i < now.triangles.size(); i++) {
            int[] t = now.triangles.get(i);
            if (!flat(t)) {
                Q[] st = lies(corners(t, map), Q.of(x), Q.of(y));
                if (st[0].sign() >= 0 && st[1].sign() >= 0
                        && Q.ONE.minus(st[0]).minus(st[1]).sign() >= 0) {
                    return i;
                }
            }
        }
        return -5;
    }

    long carried(int triangle, int map, int x, int y, int what) {
        if (noTriangle(triangle) || not(map, 1) || far(x, y) || not(what, 3)
                || flat(now.triangles.get(triangle))) {
            return NOTHING;
        }
        int[] t = now.triangles.get(triangle);
        Q[] st = lies(corners(t, map), Q.of(x), Q.of(y));
        Q[][] to = corners(t, 1 - map);
        int axis = what / 2;
        return to[0][axis].plus(st[0].times(to[1][axis].minus(to[0][axis])))
                .plus(st[1].times(to[2][axis].minus(to[0][axis]))).part(what % 2);
    }

    /** Cuts one triangle by the sides of the other: they MEET if some area is left. */
    boolean meetOn(int[] t, int[] u, int map) {
        List<Q[]> rest = new ArrayList<>(List.of(corners(t, map)));
        Q[][] knife = corners(u, map);
        int way = twice(knife).sign();
        for (int i = 0; i < 3; i++) {
            rest = cut(rest, knife[i], knife[(i + 1) % 3], way);
        }
        return rest.size() > 2 && twice(rest).sign() != 0;
    }

    static List<Q[]> cut(List<Q[]> shape, Q[] from, Q[] to, int way) {
        List<Q[]> rest = new ArrayList<>();
        for (int i = 0; i < shape.size(); i++) {
            Q[] a = shape.get(i);
            Q[] b = shape.get((i + 1) % shape.size());
            Q sa = twice(new Q[][] {from, to, a}).times(Q.of(way));
            Q sb = twice(new Q[][] {from, to, b}).times(Q.of(way));
            if (sa.sign() >= 0) {
                rest.add(a);
            }
            if (sa.sign() * sb.sign() < 0) {
                Q f = sa.over(sa.minus(sb));
                rest.add(new Q[] {a[0].plus(f.times(b[0].minus(a[0]))),
                    a[1].plus(f.times(b[1].minus(a[1])))});
            }
        }
        return rest;
    }

    int meet(int t, int u, int map) {
        if (noTriangle(t) || noTriangle(u) || not(map, 1) || t == u) {
            return -1;
        }
        int[] a = now.triangles.get(t);
        int[] b = now.triangles.get(u);
        return flat(a) || flat(b) ? -4 : meetOn(a, b, map) ? 1 : 0;
    }

    int area(int triangle, int map) {
        if (noTriangle(triangle) || not(map, 1)) {
            return -1;
        }
        return (int) twice(corners(now.triangles.get(triangle), map)).size().part(0);
    }

    int thing(int map, int kind, int x, int y) {
        if (not(map, 1) || not(kind, 5) || far(x, y)) {
            return -1;
        }
        if (now.things.get(map).size() == 6) {
            return -2;
        }
        now.things.get(map).add(new int[] {kind, x, y});
        return now.things.get(map).size() - 1;
    }

    int sweep(int map) {
        if (not(map, 1)) {
            return -1;
        }
        int was = now.things.get(map).size();
        now.things.get(map).clear();
        return was;
    }

    private long bestCost;
    private int[] bestMatch;

    /** Tries all matches in no clever order, and compares each with the best so far. */
    private void tryAll(int old, int[] match, long cost, long[][] apart) {
        if (old == match.length) {
            if (bestMatch == null || cost < bestCost || cost == bestCost && before(match, bestMatch)) {
                bestCost = cost;
                bestMatch = match.clone();
            }
            return;
        }
        match[old] = -5;
        tryAll(old + 1, match, cost + lost, apart);
        for (int n = apart[old].length - 1; n >= 0; n--) {
            boolean free = apart[old][n] >= 0;
            for (int i = 0; i < old; i++) {
                free &= match[i] != n;
            }
            if (free) {
                match[old] = n;
                tryAll(old + 1, match, cost + apart[old][n], apart);
            }
        }
    }

    static boolean before(int[] a, int[] b) {
        for (int i = 0; i < a.length; i++) {
            if (a[i] != b[i]) {
                return b[i] == -5 || a[i] != -5 && a[i] < b[i];
            }
        }
        return false;
    }

    private boolean findMatch(int kind) {
        Q[] b = bendOf(kind, counting());
        if (b == null) {
            return false;
        }
        List<int[]> olds = now.things.get(0);
        List<int[]> news = now.things.get(1);
        long[][] apart = new long[olds.size()][news.size()];
        for (int i = 0; i < olds.size(); i++) {
            int[] o = olds.get(i);
            long x = goesTo(kind, b, 0, o[1], o[2]).rounded();
            long y = goesTo(kind, b, 1, o[1], o[2]).rounded();
            for (int j = 0; j < news.size(); j++) {
                int[] n = news.get(j);
                apart[i][j] = o[0] != n[0] ? -1 : Math.abs(x - n[1]) + Math.abs(y - n[2]);
            }
        }
        bestMatch = null;
        tryAll(0, new int[olds.size()], 0, apart);
        return true;
    }

    int match(int kind, int old) {
        if (not(kind, 2) || not(old, now.things.get(0).size() - 1)) {
            return -1;
        }
        return findMatch(kind) ? bestMatch[old] : -3;
    }

    int cost(int kind) {
        return not(kind, 2) ? -1 : findMatch(kind) ? (int) bestCost : -3;
    }

    int left(int kind) {
        if (not(kind, 2)) {
            return -1;
        }
        if (!findMatch(kind)) {
            return -3;
        }
        for (int n = 0; n < now.things.get(1).size(); n++) {
            boolean given = false;
            for (int g : bestMatch) {
                given |= g == n;
            }
            if (!given) {
                return n;
            }
        }
        return -5;
    }

    private int pairs(int map) {
        int sum = 0;
        for (int t = 0; t < now.triangles.size(); t++) {
            for (int u = 0; u < t; u++) {
                sum += meet(t, u, map) == 1 ? 1 : 0;
            }
        }
        return sum;
    }

    private int states(int state) {
        int sum = 0;
        for (int t = 0; t < now.triangles.size(); t++) {
            sum += state(t) == state ? 1 : 0;
        }
        return sum;
    }

    int many(int what) {
        switch (what) {
            case 0:
                return now.points.size();
            case 1:
                return counting().size();
            case 2:
                return now.triangles.size();
            case 3:
                return states(1);
            case 4:
                return states(2);
            case 5:
            case 6:
                return now.things.get(what - 5).size();
            case 7:
            case 8:
                return pairs(what - 7);
            default:
                return -1;
        }
    }

    int keep() {
        kept = now.copy();
        return 1;
    }

    int back() {
        if (kept == null) {
            return -5;
        }
        now = kept.copy();
        return 1;
    }
}
