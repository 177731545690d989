/** Promises 15 to 20, and what the terms say of TRIANGLES. */
final class TriangleBoundaries extends Boundaries {
    /** A triangle's corners may be named in any order. */
    private static final int[][] ORDERS = {
        {0, 1, 2}, {1, 2, 0}, {2, 0, 1}, {0, 2, 1}, {2, 1, 0}, {1, 0, 2}};
    private static final int[] HALF_SQUARE = {0, 0, 4, 0, 0, 4};
    private static final int[] GREATEST = {-1000, -1000, 1000, -1000, -1000, 1000};
    /** Twice its area is 1, though it is long. */
    private static final int[] LEAST = {0, 0, 1000, 999, 1, 1};

    TriangleBoundaries(Due due, Sentences sentences) {
        super(due, sentences);
    }

    @Override
    void run() {
        comes();
        refused();
        flat();
        turnedOver();
        state();
        isIn();
        within();
        isCarried();
        carried();
        touching();
        crossing();
        meet();
        area();
    }

    /** One TRIANGLE with these corners on one map, and others on the other. */
    private static OldMap one(int map, int[] order, int[] here, int[] there) {
        OldMap x = new OldMap();
        for (int k = 0; k < 3; k++) {
            x.point(0, 0, 0, 0);
            x.move(k, map, here[2 * k], here[2 * k + 1]);
            x.move(k, 1 - map, there[2 * k], there[2 * k + 1]);
        }
        x.triangle(order[0], order[1], order[2]);
        return x;
    }

    private static OldMap one() {
        return one(0, ORDERS[0], HALF_SQUARE, HALF_SQUARE);
    }

    private void comes() {
        says(TERMS, "2. TRIANGLES are numbered from 0 as they come, 10 at most");
        OldMap x = still(0, 0, 4, 0, 0, 4, 4, 4, 2, 2);
        for (int t = 0; t < 10; t++) {
            is("the number of the next", x.triangle(t % 3, 3, (t + 1) % 3), t);
            is("how many there are then", x.many(2), t + 1);
        }
        says(15, "A TRIANGLE comes: its number.");
        is("the first", still(0, 0, 1, 0, 0, 1).triangle(2, 0, 1), 0);
        is("the last POINTS of twelve", full().area(9, 0), 2);
        says(15, "FULL.");
        is("the 11th", x.triangle(0, 1, 2), FULL);
        is("the 11th, again", x.triangle(0, 1, 2), FULL);
        is("many(2)", x.many(2), 10);
        is("the 11th isn't there", x.state(10), NUMBER);
        says(TERMS, ", each of three unlike POINTS (whether they COUNT or not).");
        OldMap y = still(0, 0, 4, 0, 0, 4);
        y.sure(0, false);
        y.put(1, false);
        y.sure(2, false);
        y.put(2, false);
        is("none COUNTS", y.triangle(0, 1, 2), 0);
        is("within", y.within(0, 1, 1), 0);
        is("carried", y.carried(0, 0, 1, 2, 2), 2);
        is("the same ones again", y.triangle(0, 1, 2), 1);
        is("they MEET", y.meet(0, 1, 0), 1);
    }

    private void refused() {
        says(15, "NUMBER: one is no POINT");
        OldMap x = still(0, 0, 4, 0, 0, 4);
        each("p", notBelow(3), v -> x.triangle(v, 0, 1), NUMBER);
        each("q", notBelow(3), v -> x.triangle(0, v, 1), NUMBER);
        each("r", notBelow(3), v -> x.triangle(0, 1, v), NUMBER);
        each("all three", notBelow(3), v -> x.triangle(v, v, v), NUMBER);
        is("of no POINTS", new OldMap().triangle(0, 1, 2), NUMBER);
        each("of 12, r", notBelow(12), v -> full().triangle(0, 1, v), NUMBER);
        says(15, ", or two are the same");
        is("p and q", x.triangle(1, 1, 2), NUMBER);
        is("p and r", x.triangle(1, 2, 1), NUMBER);
        is("q and r", x.triangle(2, 1, 1), NUMBER);
        is("all three", x.triangle(2, 2, 2), NUMBER);
        is("many(2)", x.many(2), 0);
        says(15, "; FLAT; ");
        is("on the old map alone", points(0, 0, 0, 0, 1, 1, 4, 0, 2, 2, 0, 4).triangle(0, 1, 2), FLAT);
        is("on the new map alone", points(0, 0, 0, 0, 4, 0, 1, 1, 0, 4, 2, 2).triangle(0, 1, 2), FLAT);
        is("on both", still(0, 0, 1, 1, 2, 2).triangle(0, 2, 1), FLAT);
        is("two POINTS at one OLD place", points(3, 3, 0, 0, 3, 3, 4, 0, 9, 1, 0, 4).triangle(0, 1, 2), FLAT);
        is("two POINTS at one NEW place", points(0, 0, 5, 5, 4, 0, 1, 2, 0, 4, 5, 5).triangle(0, 1, 2), FLAT);
        is("all at one place", still(7, 7, 7, 7, 7, 7).triangle(0, 1, 2), FLAT);
    }

    private void flat() {
        says(TERMS, "It is FLAT if their OLD places, or their NEW places, lie on one line.");
        for (int map = 0; map < 2; map++) {
            for (int[] order : ORDERS) {
                OldMap x = one(map, order, HALF_SQUARE, HALF_SQUARE);
                is("it isn't", x.state(0), 0);
                x.move(2, map, 2, 0);
                is("between two corners", x.state(0), 2);
                x.move(2, map, -900, 0);
                is("beyond a corner", x.state(0), 2);
                x.move(2, map, 4, 0);
                is("on a corner", x.state(0), 2);
                x.move(2, map, 3, 1);
                is("beside the line", x.state(0), 0);
                x.move(0, map, -1000, 1000);
                x.move(1, map, 1000, -1000);
                x.move(2, map, 0, 0);
                is("the longest line", x.state(0), 2);
                x.move(2, map, 0, 1);
                holds("beside the longest line", x.state(0) != 2);
                is("as long a line, and nearly flat", one(map, order, LEAST, HALF_SQUARE).many(2), 1);
            }
        }
    }

    private void turnedOver() {
        says(TERMS, "If it isn't, it is TURNED OVER if one goes round its corners the other way on the new map than on the old one.");
        for (int map = 0; map < 2; map++) {
            for (int[] order : ORDERS) {
                OldMap x = one(map, order, HALF_SQUARE, GREATEST);
                is("the same way", x.state(0), 0);
                x.move(0, map, 5, 5);
                is("a corner across the side before it", x.state(0), 1);
                x.move(0, map, 2, 2);
                is("a corner on that side", x.state(0), 2);
                x.move(0, map, 1, 2);
                is("a corner on this side", x.state(0), 0);
                x.move(2, map, -1000, -1000);
                is("another corner across", x.state(0), 1);
                is("many(3)", x.many(3), 1);
                x.move(0, 1 - map, 1000, 1000);
                is("the other way round on both maps", x.state(0), 0);
                x.move(0, 1 - map, 0, 0);
                is("FLAT on the other map", x.state(0), 2);
                is("many(3)", x.many(3), 0);
            }
        }
    }

    private void state() {
        says(16, "What a TRIANGLE is: 0 as it should be, 1 TURNED OVER, 2 FLAT (by POINTS that were moved).");
        OldMap x = one();
        is("as it should be", x.state(0), 0);
        x.move(2, 1, 0, -1);
        is("TURNED OVER", x.state(0), 1);
        x.move(2, 1, 0, 0);
        is("FLAT", x.state(0), 2);
        x.move(2, 1, 0, 1);
        is("no more", x.state(0), 0);
        is("TURNED OVER as it comes", full().state(0), 1);
        is("as it should be as it comes", full().state(9), 0);
        says(16, "NUMBER: there is none such.");
        each("of one, the TRIANGLE", notBelow(1), x::state, NUMBER);
        each("of ten, the TRIANGLE", notBelow(10), full()::state, NUMBER);
        each("of none, the TRIANGLE", new int[] {-1, 0, 1}, new OldMap()::state, NUMBER);
    }

    /** Whether a place is IN a triangle, asked of both maps, all orders of its corners. */
    private void in(String what, int[] corners, int x, int y, boolean want) {
        for (int map = 0; map < 2; map++) {
            for (int[] order : ORDERS) {
                OldMap one = one(map, order, corners, new int[] {-500, 700, -501, 700, -500, 701});
                is(what + ", map " + map, one.within(map, x, y), want ? 0 : NONE);
                is("not on the other map", one.within(1 - map, x, y), NONE);
            }
        }
    }

    private void isIn() {
        says(TERMS, "A place of the old map is IN a TRIANGLE that isn't FLAT if it is within it, on its sides or corners");
        in("within it", HALF_SQUARE, 1, 1, true);
        in("on a side", HALF_SQUARE, 3, 0, true);
        in("on a side", HALF_SQUARE, 0, 1, true);
        in("on a side", HALF_SQUARE, 3, 1, true);
        in("on a corner", HALF_SQUARE, 0, 0, true);
        in("on a corner", HALF_SQUARE, 4, 0, true);
        in("on a corner", HALF_SQUARE, 0, 4, true);
        in("beside a side", HALF_SQUARE, 1, -1, false);
        in("beside a side", HALF_SQUARE, -1, 1, false);
        in("beside a side", HALF_SQUARE, 3, 2, false);
        in("on a side's line", HALF_SQUARE, 5, 0, false);
        in("on a side's line", HALF_SQUARE, -1, 0, false);
        in("on a side's line", HALF_SQUARE, 0, -1, false);
        in("on a side's line", HALF_SQUARE, 0, 5, false);
        in("on a side's line", HALF_SQUARE, -1, 5, false);
        in("on a side's line", HALF_SQUARE, 5, -1, false);
        in("the greatest, on its side", GREATEST, 0, 0, true);
        in("the greatest, beside its side", GREATEST, 1, 0, false);
        in("the greatest, on its corner", GREATEST, 1000, -1000, true);
        in("the greatest, far from it", GREATEST, 1000, 1000, false);
        in("the least, beside it", LEAST, 500, 500, false);
        in("the least, as near to its side as may be", LEAST, 999, 998, false);
        in("the least, on its corner", LEAST, 1000, 999, true);
        in("as near to a side as may be", new int[] {0, 0, 1, 0, 0, 1}, 1, 1, false);
        OldMap x = one();
        x.move(2, 1, 2, 0);
        is("FLAT on the new map: none is IN it on the old one", x.within(0, 1, 1), NONE);
        is("nor on the new one", x.within(1, 1, 0), NONE);
        x.move(2, 0, 2, 0);
        is("FLAT on both", x.within(0, 1, 0), NONE);
        x.move(2, 1, 0, 4);
        is("FLAT on the old map: none is IN it on the new one", x.within(1, 1, 1), NONE);
    }

    private void within() {
        says(17, "The least TRIANGLE that a place of a map (0, 1) is IN.");
        OldMap x = still(0, 0, 4, 0, 0, 4, 4, 4, 8, 8);
        x.triangle(1, 3, 2);
        x.triangle(0, 1, 2);
        x.triangle(0, 1, 3);
        for (int map = 0; map < 2; map++) {
            is("in the second alone", x.within(map, 0, 1), 1);
            is("in two", x.within(map, 1, 1), 1);
            is("on a side of two", x.within(map, 2, 2), 0);
            is("a corner of three", x.within(map, 4, 0), 0);
            is("in the last two", x.within(map, 2, 1), 1);
        }
        x.move(0, 0, 8, 0);
        is("in the first, not in the last now", x.within(0, 4, 3), 0);
        is("in the last alone", x.within(0, 5, 2), 2);
        x.move(3, 1, 2, 2);
        is("the first is FLAT now", x.within(0, 4, 4), 2);
        is("the last of ten", full().within(0, 11, 121), 9);
        says(17, "NUMBER: there is no such map, or the place is beyond");
        each("the map", NO_MAP, v -> x.within(v, 1, 1), NUMBER);
        each("x", TOO_FAR, v -> x.within(0, v, 1), NUMBER);
        each("y", TOO_FAR, v -> x.within(0, 1, v), NUMBER);
        each("x on the new map", TOO_FAR, v -> x.within(1, v, 1), NUMBER);
        each("y on the new map", TOO_FAR, v -> x.within(1, 1, v), NUMBER);
        says(17, "NONE: there is none such.");
        each("x", EDGE, v -> x.within(0, v, 1), NONE);
        each("y", EDGE, v -> x.within(1, 1, v), NONE);
        is("no TRIANGLES", new OldMap().within(0, 0, 0), NONE);
        is("beside all ten", full().within(0, 0, 1), NONE);
    }

    /** Where a place is carried to, asked from both maps, all orders of the corners. */
    private void to(String what, int[] from, int[] to, int[] place, long... want) {
        for (int map = 0; map < 2; map++) {
            for (int[] order : ORDERS) {
                OldMap x = one(map, order, from, to);
                int m = map;
                are(what + ", map " + map, w -> x.carried(0, m, place[0], place[1], w), want);
            }
        }
    }

    private void isCarried() {
        says(TERMS, "it is CARRIED by it to the place of the new map which lies to the NEW corners as it lies to the OLD ones (X = X0 + s (X1 - X0) + t (X2 - X0), where x = x0 + s (x1 - x0) + t (x2 - x0); y and Y likewise).");
        says(TERMS, "From the new map to the old one it is the same, the other way round.");
        int[] there = {10, 10, 10, 18, 4, 10};
        to("within", HALF_SQUARE, there, new int[] {1, 1}, 17, 2, 12, 1);
        to("a corner", HALF_SQUARE, there, new int[] {4, 0}, 10, 1, 18, 1);
        to("the middle of a side", HALF_SQUARE, there, new int[] {2, 2}, 7, 1, 14, 1);
        to("outside", HALF_SQUARE, there, new int[] {-3, 8}, -2, 1, 4, 1);
        to("outside, and to fractions below 0", HALF_SQUARE, there, new int[] {-7, 9}, -7, 2, -4, 1);
        to("to 0", HALF_SQUARE, new int[] {-1, -1, 1, 1, 1, -1}, new int[] {2, 0}, 0, 1, 0, 1);
        to("turned over", HALF_SQUARE, new int[] {0, 0, 0, 4, 4, 0}, new int[] {1, 3}, 3, 1, 1, 1);
        to("the other way", there, HALF_SQUARE, new int[] {9, 11}, 1, 2, 2, 3);
        int[] corners = {-1000, -1000, 1000, 1000, -1000, 1000};
        to("far away", LEAST, corners, new int[] {-1000, 1000}, -4001000, 1, 3993999000L, 1);
        to("great ones onto great ones", GREATEST, GREATEST, new int[] {1000, 1000}, 1000, 1, 1000, 1);
        to("small fractions", GREATEST, LEAST, new int[] {-999, -1000}, 1, 2, 999, 2000);
    }

    private void carried() {
        says(18, "Where a TRIANGLE carries a place of a map (0, 1) to (whether the place is IN it or not): what = 0, 1 the first number, 2, 3 the second one, above and below the line.");
        int[] there = {10, 10, 10, 18, 4, 10};
        OldMap x = one(0, ORDERS[0], HALF_SQUARE, there);
        are("IN it", what -> x.carried(0, 0, 1, 1, what), 17, 2, 12, 1);
        are("not IN it", what -> x.carried(0, 1, 0, 0, what), -5, 1, 20, 3);
        for (int v : EDGE) {
            are("x at the edge", what -> x.carried(0, 0, v, 0, what), 10, 1, 10 + 2 * v, 1);
            are("y at the edge", what -> x.carried(0, 0, 0, v, what), 10 - 3 * v / 2, 1, 10, 1);
        }
        x.point(1, 1, 5, 5);
        x.triangle(0, 1, 3);
        are("by the second", what -> x.carried(1, 0, 1, 1, what), 5, 1, 5, 1);
        says(18, "NOTHING: there is no such TRIANGLE");
        each("of two, the TRIANGLE", notBelow(2), v -> x.carried(v, 0, 0, 0, 0), NOTHING);
        each("of ten, the TRIANGLE", notBelow(10), v -> full().carried(v, 1, 0, 0, 1), NOTHING);
        is("of none", new OldMap().carried(0, 0, 0, 0, 0), NOTHING);
        says(18, "no such TRIANGLE, map, the place is beyond, another what");
        each("the map", NO_MAP, v -> x.carried(0, v, 0, 0, 0), NOTHING);
        for (int map = 0; map < 2; map++) {
            int m = map;
            each("x", TOO_FAR, v -> x.carried(0, m, v, 0, 1), NOTHING);
            each("y", TOO_FAR, v -> x.carried(0, m, 0, v, 1), NOTHING);
            each("what", notBelow(4), v -> x.carried(0, m, 0, 0, v), NOTHING);
        }
        says(18, ", or the TRIANGLE is FLAT.");
        x.move(2, 0, 2, 0);
        are("FLAT on the old map, from it", w -> x.carried(0, 0, 1, 0, w), NOTHING, NOTHING, NOTHING, NOTHING);
        are("FLAT on the old map, onto it", w -> x.carried(0, 1, 1, 0, w), NOTHING, NOTHING, NOTHING, NOTHING);
        x.move(2, 0, 0, 4);
        x.move(2, 1, 10, 0);
        are("FLAT on the new map, onto it", w -> x.carried(0, 0, 1, 0, w), NOTHING, NOTHING, NOTHING, NOTHING);
        are("FLAT on the new map, from it", w -> x.carried(0, 1, 1, 0, w), NOTHING, NOTHING, NOTHING, NOTHING);
        is("another one isn't", x.carried(1, 0, 1, 1, 0), 5);
    }

    /** Whether two triangles MEET, asked of both maps, all orders of their corners. */
    private void meets(String what, int want, int[] first, int... second) {
        for (int map = 0; map < 2; map++) {
            for (int[] order : ORDERS) {
                OldMap x = one(map, order, first, HALF_SQUARE);
                for (int k = 0; k < 3; k++) {
                    x.point(0, 0, 0, 0);
                    x.move(3 + k, map, second[2 * k], second[2 * k + 1]);
                    x.move(3 + k, 1 - map, k == 1 ? -9 : -5, k == 2 ? -9 : -5);
                }
                for (int[] other : ORDERS) {
                    x.triangle(3 + other[0], 3 + other[1], 3 + other[2]);
                }
                for (int u = 1; u <= 6; u++) {
                    is(what + ", map " + map, x.meet(0, u, map), want);
                    is(what + ", map " + map, x.meet(u, 0, map), want);
                    is("far apart on the other map", x.meet(0, u, 1 - map), 0);
                }
                is("pairs", x.many(7 + map), 15 + 6 * want);
                is("pairs on the other map", x.many(8 - map), 15);
            }
        }
    }

    private void touching() {
        says(TERMS, ", on no side of either.");
        meets("a side in common", 0, HALF_SQUARE, 4, 0, 0, 4, 4, 4);
        meets("a part of a side in common", 0, HALF_SQUARE, 1, 0, 3, 0, 2, -3);
        meets("a side on a longer one", 0, HALF_SQUARE, -9, 0, 9, 0, 2, -3);
        meets("a corner in common", 0, HALF_SQUARE, 4, 0, 8, 0, 8, 4);
        meets("a corner on a side", 0, HALF_SQUARE, 2, 2, 5, 5, 5, 2);
        meets("the other's side alone parts them", 0, HALF_SQUARE, 4, -10, 4, 20, 20, 5);
        meets("apart", 0, HALF_SQUARE, 5, 0, 9, 0, 9, 9);
        meets("apart, within one another's reach", 0, HALF_SQUARE, 4, 1, 4, 4, 1, 4);
        meets("the greatest ones", 0, GREATEST, 1000, 1000, 1000, -1000, -1000, 1000);
        meets("the least one beside its side", 0, LEAST, 0, 0, 1000, 999, 1000, -1000);
    }

    private void crossing() {
        says(TERMS, "Two TRIANGLES, neither of them FLAT, MEET on a map, if some place is within both");
        meets("like corners", 1, HALF_SQUARE, HALF_SQUARE);
        meets("one in the other", 1, new int[] {0, 0, 9, 0, 0, 9}, 1, 1, 3, 1, 1, 3);
        meets("a side and the inside in common", 1, HALF_SQUARE, 0, 0, 4, 0, 1, 1);
        meets("a corner and the inside in common", 1, HALF_SQUARE, 0, 0, 4, 4, 5, 4);
        meets("a corner across a side", 1, HALF_SQUARE, 1, 2, 5, 5, 5, 2);
        meets("a side across a corner", 1, HALF_SQUARE, 3, -10, 3, 20, 20, 5);
        meets("a star", 1, new int[] {0, 0, 12, 0, 6, 9}, 0, 6, 12, 6, 6, -3);
        meets("no whole place within both", 1, new int[] {0, 0, 1, 0, 0, 1}, 0, 0, 1, 0, 1, 1);
        meets("the greatest ones", 1, GREATEST, 1000, 1000, 999, -1000, -1000, 1000);
        meets("the least one", 1, LEAST, 0, 0, 1000, 999, -1000, 1000);
        OldMap x = still(0, 0, 4, 0, 0, 4, 1, 1);
        x.triangle(0, 1, 2);
        x.triangle(0, 1, 3);
        x.move(3, 0, 2, 0);
        is("one is FLAT on the old map", x.meet(0, 1, 0), FLAT);
        is("asked of the new map", x.meet(1, 0, 1), FLAT);
        is("many(7)", x.many(7), 0);
        is("many(8)", x.many(8), 0);
    }

    private void meet() {
        says(19, "Whether two TRIANGLES MEET on a map: 1, 0.");
        OldMap x = still(0, 0, 4, 0, 0, 4, 4, 4, 1, 1);
        x.triangle(0, 1, 2);
        x.triangle(1, 3, 2);
        x.triangle(0, 1, 4);
        is("they do", x.meet(0, 2, 0), 1);
        is("they don't", x.meet(0, 1, 0), 0);
        x.move(3, 1, 1, 0);
        is("they do, on the new map", x.meet(0, 1, 1), 1);
        is("they don't, on the old map", x.meet(0, 1, 0), 0);
        says(19, "NUMBER: there is no such TRIANGLE");
        each("of three, t", notBelow(3), v -> x.meet(v, 0, 0), NUMBER);
        each("of three, u", notBelow(3), v -> x.meet(0, v, 0), NUMBER);
        each("of ten, t", notBelow(10), v -> full().meet(v, 0, 1), NUMBER);
        is("of none", new OldMap().meet(0, 1, 0), NUMBER);
        says(19, "no such TRIANGLE, map, or both are one");
        each("the map", NO_MAP, v -> x.meet(0, 1, v), NUMBER);
        is("both are one", x.meet(2, 2, 0), NUMBER);
        is("both are one", x.meet(0, 0, 1), NUMBER);
        says(19, "FLAT: one is.");
        x.move(4, 0, 2, 0);
        is("the second is", x.meet(0, 2, 0), FLAT);
        is("the first is", x.meet(2, 1, 0), FLAT);
        is("on the old map, asked of the new one", x.meet(2, 0, 1), FLAT);
        x.move(3, 0, 2, 2);
        is("both are", x.meet(1, 2, 1), FLAT);
        x.move(4, 0, 1, 1);
        is("the first is, on the old map alone", x.meet(1, 2, 1), FLAT);
        is("none is", x.meet(0, 2, 0), 1);
    }

    private void area() {
        says(20, "Twice the area of a TRIANGLE on a map, without its sign.");
        for (int map = 0; map < 2; map++) {
            for (int[] order : ORDERS) {
                is("the greatest", one(map, order, GREATEST, HALF_SQUARE).area(0, map), 4000000);
                is("on the other map", one(map, order, GREATEST, HALF_SQUARE).area(0, 1 - map), 16);
                OldMap x = one(map, order, LEAST, HALF_SQUARE);
                is("the least", x.area(0, map), 1);
                x.move(2, map, 0, 0);
                is("FLAT", x.area(0, map), 0);
                is("FLAT on the other map", x.area(0, 1 - map), 16);
            }
        }
        says(20, "NUMBER: there is none such");
        each("of one, the TRIANGLE", notBelow(1), v -> one().area(v, 0), NUMBER);
        each("of ten, the TRIANGLE", notBelow(10), v -> full().area(v, 1), NUMBER);
        is("of none", new OldMap().area(0, 0), NUMBER);
        says(20, ", or no such map.");
        each("the map", NO_MAP, v -> one().area(0, v), NUMBER);
    }
}
