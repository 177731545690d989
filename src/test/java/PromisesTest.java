/** Each promise of the document by its number: ordinary inputs, edges, wrong inputs. */
public final class PromisesTest {
    private static final int NUMBER = -1;
    private static final int FULL = -2;
    private static final int FEW = -3;
    private static final int FLAT = -4;
    private static final int NONE = -5;
    private static final long NOTHING = -4000000000000000000L;
    private static final int LOW = Integer.MIN_VALUE;
    private static final int HIGH = Integer.MAX_VALUE;
    private static final int[] NO_KIND = {-1, 3, LOW, HIGH};
    private static final int[] NO_MAP = {-1, 2, LOW, HIGH};
    private static final int[] NO_NUMBER = {-1001, 1001, LOW, HIGH};

    private static final Due DUE = new Due("PromisesTest");

    private PromisesTest() {
    }

    public static void main(String[] args) {
        newObject();
        point();
        move();
        sure();
        put();
        of();
        bend();
        bendRefused();
        carry();
        off();
        miss();
        beyond();
        lying();
        lyingSets();
        drop();
        rule();
        triangle();
        state();
        within();
        carried();
        meet();
        area();
        thing();
        sweep();
        match();
        matchTies();
        cost();
        left();
        many();
        keep();
        back();
        refusedCallsChangeNothing();
        smallTriangles();
        fullTable();
        greatNumbers();
        DUE.end();
    }

    private static void is(String call, long got, long due) {
        DUE.is(call, got, due);
    }

    /** The four parts of two fractions, or of as many as are given. */
    private static void bendIs(OldMap x, int kind, long... parts) {
        for (int what = 0; what < parts.length; what++) {
            is("bend(" + kind + ", " + what + ")", x.bend(kind, what), parts[what]);
        }
    }

    private static void carryIs(OldMap x, int kind, int px, int py, long... parts) {
        for (int what = 0; what < parts.length; what++) {
            is("carry(" + kind + ", " + px + ", " + py + ", " + what + ")",
                    x.carry(kind, px, py, what), parts[what]);
        }
    }

    private static void offIs(OldMap x, int kind, int point, long... parts) {
        for (int what = 0; what < parts.length; what++) {
            is("off(" + kind + ", " + point + ", " + what + ")",
                    x.off(kind, point, what), parts[what]);
        }
    }

    private static void missIs(OldMap x, int kind, long... parts) {
        for (int what = 0; what < parts.length; what++) {
            is("miss(" + kind + ", " + what + ")", x.miss(kind, what), parts[what]);
        }
    }

    private static void carriedIs(OldMap x, int triangle, int map, int[] place, long... parts) {
        for (int what = 0; what < parts.length; what++) {
            is("carried(" + triangle + ", " + map + ", " + place[0] + ", " + place[1] + ", " + what
                    + ")", x.carried(triangle, map, place[0], place[1], what), parts[what]);
        }
    }

    private static void manyAre(OldMap x, int... counts) {
        for (int what = 0; what < counts.length; what++) {
            is("many(" + what + ")", x.many(what), counts[what]);
        }
    }

    private static int[] at(int x, int y) {
        return new int[] {x, y};
    }

    private static void newObject() {
        DUE.part("promise 1");
        OldMap x = new OldMap();
        manyAre(x, 0, 0, 0, 0, 0, 0, 0, 0, 0);
        is("back()", x.back(), NONE);
        is("of(0, 0)", x.of(0, 0), -2000);
        is("state(0)", x.state(0), NUMBER);
        is("match(0, 0)", x.match(0, 0), NUMBER);
        is("beyond(0)", x.beyond(0), FEW);
        is("rule(0, 10)", x.rule(0, 10), 10);
        is("rule(1, 100)", x.rule(1, 100), 100);
        x.point(1, 2, 3, 4);
        is("many(0) of another object", new OldMap().many(0), 0);
        is("NUMBER", OldMap.NUMBER, -1);
        is("FULL", OldMap.FULL, -2);
        is("FEW", OldMap.FEW, -3);
        is("FLAT", OldMap.FLAT, -4);
        is("NONE", OldMap.NONE, -5);
        is("NOTHING", OldMap.NOTHING, NOTHING);
    }

    private static void point() {
        DUE.part("promise 2");
        OldMap x = new OldMap();
        for (int v : NO_NUMBER) {
            is("point with x " + v, x.point(v, 0, 0, 0), NUMBER);
            is("point with y " + v, x.point(0, v, 0, 0), NUMBER);
            is("point with X " + v, x.point(0, 0, v, 0), NUMBER);
            is("point with Y " + v, x.point(0, 0, 0, v), NUMBER);
        }
        is("many(0)", x.many(0), 0);
        is("point at the corners", x.point(-1000, 1000, 1000, -1000), 0);
        for (int k = 1; k < 12; k++) {
            is("point " + k, x.point(k, -k, 2 * k, 7), k);
        }
        is("the 13th point", x.point(0, 0, 0, 0), FULL);
        is("a 13th point that is beyond", x.point(0, 0, 0, 1001), NUMBER);
        is("many(0)", x.many(0), 12);
        is("many(1)", x.many(1), 12);
    }

    private static void move() {
        DUE.part("promise 3");
        OldMap x = new OldMap();
        x.point(1, 2, 3, 4);
        x.point(5, 6, 7, 8);
        is("move(1, 0, -1000, 1000)", x.move(1, 0, -1000, 1000), 1);
        is("move(0, 1, 1000, -1000)", x.move(0, 1, 1000, -1000), 1);
        is("move to where it is", x.move(0, 1, 1000, -1000), 1);
        int[][] due = {{1, 2, 1000, -1000}, {-1000, 1000, 7, 8}};
        for (int v : NO_NUMBER) {
            is("move to x " + v, x.move(0, 0, v, 0), NUMBER);
            is("move to y " + v, x.move(0, 1, 0, v), NUMBER);
        }
        for (int v : NO_MAP) {
            is("move on map " + v, x.move(0, v, 0, 0), NUMBER);
        }
        for (int v : new int[] {-1, 2, 12, LOW, HIGH}) {
            is("move of point " + v, x.move(v, 0, 0, 0), NUMBER);
        }
        for (int k = 0; k < 2; k++) {
            for (int what = 0; what < 4; what++) {
                is("of(" + k + ", " + what + ")", x.of(k, what), due[k][what]);
            }
        }
    }

    private static void sure() {
        DUE.part("promise 4");
        OldMap x = new OldMap();
        x.point(0, 0, 1, 1);
        x.point(0, 0, 3, 3);
        is("sure(0, true) as it came", x.sure(0, true), 0);
        is("sure(0, false)", x.sure(0, false), 1);
        is("sure(0, false) again", x.sure(0, false), 0);
        is("of(0, 4)", x.of(0, 4), 0);
        is("of(0, 5)", x.of(0, 5), 1);
        is("of(1, 4)", x.of(1, 4), 1);
        is("many(1)", x.many(1), 1);
        is("bend(0, 0) without the doubtful one", x.bend(0, 0), 3);
        is("sure(0, true)", x.sure(0, true), 1);
        is("bend(0, 0) with both", x.bend(0, 0), 2);
        for (int v : new int[] {-1, 2, 12, LOW, HIGH}) {
            is("sure(" + v + ", false)", x.sure(v, false), NUMBER);
            is("sure(" + v + ", true)", x.sure(v, true), NUMBER);
        }
        is("many(1)", x.many(1), 2);
    }

    private static void put() {
        DUE.part("promise 5");
        OldMap x = new OldMap();
        x.point(0, 0, 1, 1);
        x.point(0, 0, 3, 3);
        is("put(1, true) as it came", x.put(1, true), 0);
        is("put(1, false)", x.put(1, false), 1);
        is("put(1, false) again", x.put(1, false), 0);
        is("of(1, 5)", x.of(1, 5), 0);
        is("of(1, 4)", x.of(1, 4), 1);
        is("bend(0, 0) without the one put out", x.bend(0, 0), 1);
        x.sure(1, false);
        is("put(1, true)", x.put(1, true), 1);
        is("many(1): in, but doubtful", x.many(1), 1);
        x.sure(1, true);
        is("many(1): both", x.many(1), 2);
        for (int v : new int[] {-1, 2, 12, LOW, HIGH}) {
            is("put(" + v + ", false)", x.put(v, false), NUMBER);
            is("put(" + v + ", true)", x.put(v, true), NUMBER);
        }
        is("many(1)", x.many(1), 2);
    }

    private static void of() {
        DUE.part("promise 6");
        OldMap x = new OldMap();
        x.point(11, 12, 13, 14);
        x.point(-1, -2, -3, -1000);
        int[][] due = {{11, 12, 13, 14, 1, 1}, {-1, -2, -3, -1000, 1, 1}};
        for (int k = 0; k < 2; k++) {
            for (int what = 0; what < 6; what++) {
                is("of(" + k + ", " + what + ")", x.of(k, what), due[k][what]);
            }
        }
        for (int v : new int[] {-1, 6, LOW, HIGH}) {
            is("of(0, " + v + ")", x.of(0, v), -2000);
        }
        for (int v : new int[] {-1, 2, 12, LOW, HIGH}) {
            is("of(" + v + ", 0)", x.of(v, 0), -2000);
        }
    }

    private static void bend() {
        DUE.part("promise 7");
        OldMap x = new OldMap();
        x.point(0, 0, 1, 2);
        bendIs(x, 0, 1, 1, 2, 1, 1, 1, 0, 1);
        x.point(2, 0, 4, 2);
        bendIs(x, 0, 3, 2, 2, 1, 1, 1, 0, 1);
        bendIs(x, 1, 1, 1, 2, 1, 3, 2, 0, 1);
        x.point(0, 3, 1, 0);
        // Spreads, times three: xx 8, yy 18, xX 12, yY -12, xY 4, yX -9.
        // Turned: p = (12 - 12) / 26, q = (4 + 9) / 26. Shrunk: p = 12 / 8, q = -12 / 18.
        bendIs(x, 1, 5, 2, 1, 1, 0, 1, 1, 2);
        bendIs(x, 2, 1, 1, 2, 1, 3, 2, -2, 3);
        x.move(2, 1, 1, 6);
        // Now yY is 24 and xY -8: p = 36 / 26, q = 1 / 26; shrunk q = 24 / 18.
        bendIs(x, 1, 29, 26, 25, 13, 18, 13, 1, 26);
        bendIs(x, 2, 1, 1, 2, 1, 3, 2, 4, 3);
        bendIs(x, 0, 4, 3, 7, 3, 1, 1, 0, 1);
    }

    private static void bendRefused() {
        DUE.part("promise 7, refused");
        OldMap x = new OldMap();
        for (int kind = 0; kind < 3; kind++) {
            is("bend without points", x.bend(kind, 0), NOTHING);
        }
        x.point(5, 5, 0, 0);
        x.point(5, 5, 9, 9);
        is("turned: like old places", x.bend(1, 0), NOTHING);
        x.point(5, 7, 9, 9);
        is("turned: like x is enough", x.bend(1, 5) != NOTHING ? 1 : 0, 1);
        is("shrunk: like x", x.bend(2, 2), NOTHING);
        x.move(2, 0, 7, 5);
        is("turned: like y is enough", x.bend(1, 5) != NOTHING ? 1 : 0, 1);
        is("shrunk: like y", x.bend(2, 0), NOTHING);
        x.move(2, 0, 7, 7);
        is("shrunk: both unlike", x.bend(2, 5) != NOTHING ? 1 : 0, 1);
        for (int v : NO_KIND) {
            is("bend(" + v + ", 0)", x.bend(v, 0), NOTHING);
        }
        for (int v : new int[] {-1, 8, LOW, HIGH}) {
            for (int kind = 0; kind < 3; kind++) {
                is("bend(" + kind + ", " + v + ")", x.bend(kind, v), NOTHING);
            }
        }
    }

    private static void carry() {
        DUE.part("promise 8");
        OldMap x = new OldMap();
        x.point(0, 0, 10, 20);
        carryIs(x, 0, 3, -4, 13, 1, 16, 1);
        is("carry(1, 0, 0, 0): few", x.carry(1, 0, 0, 0), NOTHING);
        x.point(10, 0, 10, 25);
        x.point(0, 10, 5, 20);
        // Turned by a quarter and shrunk to a half: p = 0, q = 1/2.
        carryIs(x, 1, 3, 4, 8, 1, 43, 2);
        carryIs(x, 1, -1000, 1000, -490, 1, -480, 1);
        carryIs(x, 0, 0, 0, 5, 1, 55, 3);
        carryIs(x, 2, 5, 5, 35, 4, 85, 4);
        for (int v : NO_NUMBER) {
            is("carry of x " + v, x.carry(0, v, 0, 0), NOTHING);
            is("carry of y " + v, x.carry(2, 0, v, 0), NOTHING);
        }
        for (int v : NO_KIND) {
            is("carry(" + v + ", 0, 0, 0)", x.carry(v, 0, 0, 0), NOTHING);
        }
        for (int v : new int[] {-1, 4, LOW, HIGH}) {
            is("carry(1, 0, 0, " + v + ")", x.carry(1, 0, 0, v), NOTHING);
        }
    }

    private static void off() {
        DUE.part("promise 9");
        OldMap x = new OldMap();
        is("off(0, 0, 0): no point", x.off(0, 0, 0), NOTHING);
        x.point(0, 0, 0, 0);
        is("off(1, 0, 0): few", x.off(1, 0, 0), NOTHING);
        x.point(0, 0, 1, 2);
        x.point(0, 0, 1, 3);
        offIs(x, 0, 0, -2, 3, -5, 3);
        offIs(x, 0, 1, 1, 3, 1, 3);
        x.put(0, false);
        offIs(x, 0, 0, -1, 1, -5, 2);
        offIs(x, 0, 2, 0, 1, 1, 2);
        for (int v : new int[] {-1, 3, 12, LOW, HIGH}) {
            is("off(0, " + v + ", 0)", x.off(0, v, 0), NOTHING);
        }
        for (int v : NO_KIND) {
            is("off(" + v + ", 0, 0)", x.off(v, 0, 0), NOTHING);
        }
        for (int v : new int[] {-1, 4, LOW, HIGH}) {
            is("off(0, 0, " + v + ")", x.off(0, 0, v), NOTHING);
        }
    }

    private static void miss() {
        DUE.part("promise 10");
        OldMap x = new OldMap();
        is("miss(0, 0): few", x.miss(0, 0), NOTHING);
        x.point(0, 0, 0, 0);
        missIs(x, 0, 0, 1, NOTHING, NOTHING, NOTHING);
        x.point(2, 1, 3, 2);
        x.point(1, 2, 1, 1);
        // Shifts wanted: 0 1 0 along x and 0 1 -1 along y: 2/3 and 2.
        missIs(x, 0, 8, 3, NOTHING, NOTHING);
        // Shrunk along x 0 1 2 to 0 1 3: off by 1/6, -1/3, 1/6; along y 0 1 2 to 0 2 1 likewise
        // p = 1/2: off by -1/2, 1, -1/2.
        missIs(x, 2, 1, 6, 3, 2, NOTHING);
        // Turned: spreads, times three, old 12, new 20, p 12 and q 3 above 12.
        missIs(x, 1, 29, 12, NOTHING, NOTHING);
        for (int v : NO_KIND) {
            is("miss(" + v + ", 0)", x.miss(v, 0), NOTHING);
        }
        for (int v : new int[] {-1, 4, LOW, HIGH}) {
            is("miss(2, " + v + ")", x.miss(2, v), NOTHING);
            is("miss(1, " + v + ")", x.miss(1, v), NOTHING);
        }
    }

    private static void beyond() {
        DUE.part("promise 11");
        OldMap x = new OldMap();
        for (int v : NO_KIND) {
            is("beyond(" + v + ")", x.beyond(v), NUMBER);
        }
        is("beyond(0)", x.beyond(0), FEW);
        x.point(0, 0, 10, 0);
        is("beyond(0)", x.beyond(0), NONE);
        is("beyond(1)", x.beyond(1), FEW);
        x.point(0, 0, -10, 0);
        is("off by 10 is not more than 10", x.beyond(0), NONE);
        x.move(0, 1, 11, 0);
        is("off by 21/2", x.beyond(0), 0);
        x.move(0, 1, 0, 10);
        x.move(1, 1, 0, -11);
        is("off by 21/2 along y, the second below 0", x.beyond(0), 0);
        x.sure(0, false);
        is("a doubtful one is not asked", x.beyond(0), NONE);
        x.sure(0, true);
        x.point(0, 0, 0, 0);
        x.rule(0, 10);
        is("off by 31/3, -32/3, 1/3", x.beyond(0), 0);
        x.move(0, 1, 0, 9);
        x.move(2, 1, 0, 2);
        is("off by 9, -11, 2", x.beyond(0), 1);
    }

    private static void lying() {
        DUE.part("promise 12");
        OldMap x = new OldMap();
        for (int v : NO_KIND) {
            is("lying(" + v + ")", x.lying(v), NUMBER);
        }
        is("lying(0)", x.lying(0), FEW);
        x.point(0, 0, 0, 0);
        is("lying(0) of one", x.lying(0), 0);
        is("lying(1) of one", x.lying(1), FEW);
        x.point(10, 0, 10, 0);
        x.point(0, 10, 0, 10);
        x.point(10, 10, 900, -900);
        is("lying(0)", x.lying(0), 8);
        is("lying(1)", x.lying(1), 8);
        is("lying(2)", x.lying(2), 8);
        x.sure(3, false);
        is("lying(0) when it is doubtful", x.lying(0), 0);
        x.sure(3, true);
        x.rule(0, 1000);
        is("lying(0) when none is beyond", x.lying(0), 0);
        x.rule(0, 0);
        is("lying(0) when all must agree wholly", x.lying(0), 8);
        is("nothing is put out", x.many(1), 4);
    }

    private static void lyingSets() {
        DUE.part("promise 12, sets");
        OldMap x = new OldMap();
        x.rule(0, 0);
        int[] shifts = {5, 5, 6, 6};
        for (int s : shifts) {
            x.point(0, 0, s, 0);
        }
        is("of two pairs the least as bits leaves", x.lying(0), 3);
        x.point(0, 0, 7, 0);
        is("a pair and the last one leave", x.lying(0), 16 + 3);
        x.point(0, 0, 8, 0);
        is("more than three would have to", x.lying(0), NONE);
        is("drop(0)", x.drop(0), NONE);
        is("nothing is put out", x.many(1), 6);
        x.put(0, false);
        is("6 6 stay, 5 7 8 leave", x.lying(0), 2 + 16 + 32);
        OldMap y = new OldMap();
        y.rule(0, 0);
        y.point(0, 0, 0, 0);
        y.point(0, 1, 0, 1);
        y.point(1, 0, 1, 5);
        is("shrunk: the least whose leaving is enough", y.lying(2), 1);
        y.move(2, 1, 1, 0);
        y.point(0, 0, 3, 3);
        is("shrunk: the only one whose leaving is enough", y.lying(2), 8);
        OldMap z = new OldMap();
        z.point(1, 0, 900, 0);
        z.point(0, 0, 0, 0);
        z.point(0, 0, 50, 0);
        is("turned: what is left must suffice", z.lying(1), 2);
    }

    private static void drop() {
        DUE.part("promise 13");
        OldMap x = new OldMap();
        for (int v : NO_KIND) {
            is("drop(" + v + ")", x.drop(v), NUMBER);
        }
        is("drop(0)", x.drop(0), FEW);
        x.rule(0, 0);
        for (int s : new int[] {5, 6, 6, 7, 6, 8, 6}) {
            x.point(0, 0, s, 0);
        }
        x.point(0, 0, 999, 0);
        x.sure(7, false);
        is("lying(0)", x.lying(0), 1 + 8 + 32);
        is("drop(0)", x.drop(0), 3);
        for (int k = 0; k < 8; k++) {
            is("of(" + k + ", 5)", x.of(k, 5), k == 0 || k == 3 || k == 5 ? 0 : 1);
            is("of(" + k + ", 4)", x.of(k, 4), k == 7 ? 0 : 1);
        }
        is("drop(0) again", x.drop(0), 0);
        is("many(1)", x.many(1), 4);
        is("drop(1)", x.drop(1), FEW);
    }

    private static void rule() {
        DUE.part("promise 14");
        OldMap x = new OldMap();
        is("rule(0, 0)", x.rule(0, 0), 10);
        is("rule(0, 1000)", x.rule(0, 1000), 0);
        is("rule(0, 1001)", x.rule(0, 1001), NUMBER);
        is("rule(0, -1)", x.rule(0, -1), NUMBER);
        is("rule(0, 7)", x.rule(0, 7), 1000);
        is("rule(1, 0)", x.rule(1, 0), 100);
        is("rule(1, 2000)", x.rule(1, 2000), 0);
        is("rule(1, 2001)", x.rule(1, 2001), NUMBER);
        is("rule(1, -1)", x.rule(1, -1), NUMBER);
        for (int v : new int[] {-1, 2, LOW, HIGH}) {
            is("rule(" + v + ", 5)", x.rule(v, 5), NUMBER);
            is("rule(0, " + v + " of another size)", x.rule(0, v == 2 ? 1002 : v), NUMBER);
        }
        is("rule(1, 3)", x.rule(1, 3), 2000);
        is("rule(0, 3)", x.rule(0, 3), 7);
    }

    private static OldMap square() {
        OldMap x = new OldMap();
        x.point(0, 0, 0, 0);
        x.point(10, 0, 20, 0);
        x.point(0, 10, 0, 30);
        x.point(10, 10, 20, 30);
        return x;
    }

    private static void triangle() {
        DUE.part("promise 15");
        OldMap x = square();
        x.point(5, 5, 1, 2);
        x.point(3, 4, 10, 15);
        for (int v : new int[] {-1, 6, 12, LOW, HIGH}) {
            is("triangle(" + v + ", 0, 1)", x.triangle(v, 0, 1), NUMBER);
            is("triangle(0, " + v + ", 1)", x.triangle(0, v, 1), NUMBER);
            is("triangle(0, 1, " + v + ")", x.triangle(0, 1, v), NUMBER);
        }
        is("triangle(0, 0, 1)", x.triangle(0, 0, 1), NUMBER);
        is("triangle(0, 1, 0)", x.triangle(0, 1, 0), NUMBER);
        is("triangle(1, 0, 0)", x.triangle(1, 0, 0), NUMBER);
        is("flat on the old map", x.triangle(0, 3, 4), FLAT);
        is("flat on the new map", x.triangle(0, 3, 5), FLAT);
        x.sure(0, false);
        x.put(1, false);
        is("of points that don't count", x.triangle(0, 1, 2), 0);
        for (int t = 1; t < 10; t++) {
            is("triangle " + t + ", the same again", x.triangle(2, 1, 0), t);
        }
        is("the 11th", x.triangle(0, 1, 2), FULL);
        is("the 11th, flat", x.triangle(0, 3, 4), FLAT);
        is("the 11th, of two alike", x.triangle(0, 0, 1), NUMBER);
        is("many(2)", x.many(2), 10);
    }

    private static void state() {
        DUE.part("promise 16");
        OldMap x = square();
        x.triangle(0, 1, 2);
        x.triangle(2, 1, 0);
        is("state(0)", x.state(0), 0);
        is("state(1)", x.state(1), 0);
        x.move(2, 1, 0, -30);
        is("state(0) turned over", x.state(0), 1);
        is("state(1) turned over", x.state(1), 1);
        x.move(2, 0, 0, -10);
        is("state(0) both turned", x.state(0), 0);
        x.move(2, 0, -5, 0);
        is("state(0) flat on the old map", x.state(0), 2);
        x.move(2, 0, 0, 10);
        x.move(2, 1, 0, 0);
        is("state(0) flat on the new map", x.state(0), 2);
        for (int v : new int[] {-1, 2, 10, LOW, HIGH}) {
            is("state(" + v + ")", x.state(v), NUMBER);
        }
    }

    private static void within() {
        DUE.part("promise 17");
        OldMap x = square();
        is("within without triangles", x.within(0, 1, 1), NONE);
        x.triangle(1, 3, 2);
        x.triangle(0, 2, 1);
        is("inside the first", x.within(0, 9, 9), 0);
        is("inside the second", x.within(0, 1, 1), 1);
        is("on the side of both", x.within(0, 4, 6), 0);
        is("on a side of the second", x.within(0, 0, 4), 1);
        is("a corner of the second", x.within(0, 0, 0), 1);
        is("a corner of both", x.within(0, 10, 0), 0);
        is("beside", x.within(0, -1, 0), NONE);
        is("on the line of a side, beyond it", x.within(0, 0, 11), NONE);
        is("on the new map", x.within(1, 20, 30), 0);
        is("on the new map, second", x.within(1, 9, 14), 1);
        is("on the new map, beside", x.within(1, 21, 30), NONE);
        x.move(3, 1, 40, -30);
        is("a flat one has no place", x.within(0, 9, 9), NONE);
        is("a flat one has no place", x.within(0, 4, 6), 1);
        for (int v : NO_MAP) {
            is("within(" + v + ", 1, 1)", x.within(v, 1, 1), NUMBER);
        }
        for (int v : NO_NUMBER) {
            is("within(0, " + v + ", 1)", x.within(0, v, 1), NUMBER);
            is("within(1, 1, " + v + ")", x.within(1, 1, v), NUMBER);
        }
        is("within(0, 1000, -1000)", x.within(0, 1000, -1000), NONE);
    }

    private static void carried() {
        DUE.part("promise 18");
        OldMap x = square();
        x.triangle(0, 1, 2);
        x.triangle(2, 1, 3);
        carriedIs(x, 0, 0, at(3, 4), 6, 1, 12, 1);
        carriedIs(x, 0, 1, at(3, 4), 3, 2, 4, 3);
        carriedIs(x, 1, 0, at(-7, 11), -14, 1, 33, 1);
        carriedIs(x, 0, 1, at(0, 0), 0, 1, 0, 1);
        carriedIs(x, 1, 1, at(-1000, 1000), -500, 1, 1000, 3);
        x.move(0, 0, 1, 3);
        // x = 1 + 9 s - t, y = 3 - 3 s + 7 t: of (0, 0) s = -1/6, t = -1/2.
        carriedIs(x, 0, 0, at(0, 0), -10, 3, -15, 1);
        x.move(0, 0, 5, 5);
        is("carried by a flat one", x.carried(0, 0, 0, 0, 0), NOTHING);
        is("carried by a flat one, from the new map", x.carried(0, 1, 0, 0, 3), NOTHING);
        is("carried by another", x.carried(1, 0, 0, 0, 0), 0);
        for (int v : new int[] {-1, 2, 10, LOW, HIGH}) {
            is("carried(" + v + ", 0, 0, 0, 0)", x.carried(v, 0, 0, 0, 0), NOTHING);
        }
        for (int v : NO_MAP) {
            is("carried(1, " + v + ", 0, 0, 0)", x.carried(1, v, 0, 0, 0), NOTHING);
        }
        for (int v : NO_NUMBER) {
            is("carried(1, 0, " + v + ", 0, 0)", x.carried(1, 0, v, 0, 0), NOTHING);
            is("carried(1, 0, 0, " + v + ", 0)", x.carried(1, 0, 0, v, 0), NOTHING);
        }
        for (int v : new int[] {-1, 4, LOW, HIGH}) {
            is("carried(1, 0, 0, 0, " + v + ")", x.carried(1, 0, 0, 0, v), NOTHING);
        }
    }

    private static void meet() {
        DUE.part("promise 19");
        OldMap x = square();
        x.triangle(0, 1, 2);
        x.triangle(1, 3, 2);
        is("a side in common", x.meet(0, 1, 0), 0);
        x.triangle(2, 1, 0);
        is("the same corners, the other way round", x.meet(0, 2, 0), 1);
        is("the other way round", x.meet(2, 0, 1), 1);
        x.move(3, 0, 1, 1);
        is("one within the other", x.meet(0, 1, 0), 1);
        is("one within the other", x.meet(1, 0, 0), 1);
        is("not on the new map", x.meet(1, 0, 1), 0);
        star();
        for (int v : new int[] {-1, 3, 10, LOW, HIGH}) {
            is("meet(" + v + ", 0, 0)", x.meet(v, 0, 0), NUMBER);
            is("meet(0, " + v + ", 0)", x.meet(0, v, 0), NUMBER);
        }
        for (int v : NO_MAP) {
            is("meet(0, 1, " + v + ")", x.meet(0, 1, v), NUMBER);
        }
        is("meet(1, 1, 0)", x.meet(1, 1, 0), NUMBER);
        x.move(3, 1, 10, 15);
        is("one is flat, on the other map", x.meet(0, 1, 0), FLAT);
        is("one is flat", x.meet(1, 2, 1), FLAT);
        is("both are one, and flat", x.meet(1, 1, 1), NUMBER);
    }

    /** Two triangles of which neither has a corner in the other; then corners that touch. */
    private static void star() {
        OldMap x = new OldMap();
        x.point(0, 0, 0, 0);
        x.point(12, 0, 10, 0);
        x.point(6, 9, 0, 10);
        x.point(0, 6, 10, 0);
        x.point(12, 6, 20, 0);
        x.point(6, -3, 10, 10);
        x.triangle(0, 1, 2);
        x.triangle(3, 4, 5);
        is("a star", x.meet(0, 1, 0), 1);
        is("corners touch", x.meet(0, 1, 1), 0);
        x.move(3, 1, 5, 5);
        is("a corner on a side", x.meet(0, 1, 1), 0);
        x.move(3, 1, 4, 5);
        is("a corner across a side", x.meet(0, 1, 1), 1);
    }

    private static void area() {
        DUE.part("promise 20");
        OldMap x = square();
        x.triangle(0, 1, 2);
        x.triangle(0, 2, 1);
        is("area(0, 0)", x.area(0, 0), 100);
        is("area(0, 1)", x.area(0, 1), 600);
        is("area(1, 0)", x.area(1, 0), 100);
        is("area(1, 1)", x.area(1, 1), 600);
        x.move(1, 0, 0, 7);
        is("area of a flat one", x.area(0, 0), 0);
        is("area of a flat one on the other map", x.area(0, 1), 600);
        x.move(0, 0, -1000, -1000);
        x.move(1, 0, 1000, -1000);
        x.move(2, 0, 1000, 1000);
        is("the greatest area", x.area(0, 0), 4000000);
        for (int v : new int[] {-1, 2, 10, LOW, HIGH}) {
            is("area(" + v + ", 0)", x.area(v, 0), NUMBER);
        }
        for (int v : NO_MAP) {
            is("area(0, " + v + ")", x.area(0, v), NUMBER);
        }
    }

    private static void thing() {
        DUE.part("promise 21");
        OldMap x = new OldMap();
        for (int v : NO_MAP) {
            is("thing(" + v + ", 0, 0, 0)", x.thing(v, 0, 0, 0), NUMBER);
        }
        for (int v : new int[] {-1, 6, LOW, HIGH}) {
            is("thing(0, " + v + ", 0, 0)", x.thing(0, v, 0, 0), NUMBER);
        }
        for (int v : NO_NUMBER) {
            is("thing(0, 0, " + v + ", 0)", x.thing(0, 0, v, 0), NUMBER);
            is("thing(1, 0, 0, " + v + ")", x.thing(1, 0, 0, v), NUMBER);
        }
        for (int k = 0; k < 6; k++) {
            is("old thing " + k, x.thing(0, k, 1000, -1000), k);
        }
        is("the 7th old thing", x.thing(0, 0, 0, 0), FULL);
        is("the 7th old thing, of no kind", x.thing(0, 6, 0, 0), NUMBER);
        is("the first new thing", x.thing(1, 5, -1000, 1000), 0);
        is("many(5)", x.many(5), 6);
        is("many(6)", x.many(6), 1);
    }

    private static void sweep() {
        DUE.part("promise 22");
        OldMap x = new OldMap();
        is("sweep(0) of none", x.sweep(0), 0);
        x.thing(0, 1, 2, 3);
        x.thing(0, 1, 2, 3);
        x.thing(1, 1, 2, 3);
        for (int v : NO_MAP) {
            is("sweep(" + v + ")", x.sweep(v), NUMBER);
        }
        is("sweep(0)", x.sweep(0), 2);
        is("many(5)", x.many(5), 0);
        is("many(6)", x.many(6), 1);
        is("numbers begin anew", x.thing(0, 4, 0, 0), 0);
        is("sweep(1)", x.sweep(1), 1);
        is("many(6)", x.many(6), 0);
    }

    /** A map whose three bends all leave each place where it is. */
    private static OldMap still() {
        OldMap x = new OldMap();
        x.point(0, 0, 0, 0);
        x.point(10, 20, 10, 20);
        return x;
    }

    private static void match() {
        DUE.part("promise 23");
        OldMap x = still();
        x.thing(0, 1, 0, 0);
        x.thing(0, 1, 10, 0);
        x.thing(0, 2, 0, 0);
        x.thing(0, 3, 0, 0);
        x.thing(1, 1, 12, 0);
        x.thing(1, 1, 9, 0);
        x.thing(1, 2, 60, -40);
        x.thing(1, 3, 60, -41);
        for (int kind = 0; kind < 3; kind++) {
            is("farther by itself, nearer together", x.match(kind, 0), 1);
            is("farther by itself, nearer together", x.match(kind, 1), 0);
            is("apart by just what a lost one costs", x.match(kind, 2), 2);
            is("apart by more", x.match(kind, 3), NONE);
        }
        for (int v : NO_KIND) {
            is("match(" + v + ", 0)", x.match(v, 0), NUMBER);
        }
        for (int v : new int[] {-1, 4, 6, LOW, HIGH}) {
            is("match(0, " + v + ")", x.match(0, v), NUMBER);
        }
        x.put(0, false);
        is("match(1, 0)", x.match(1, 0), FEW);
        is("match(1, 4)", x.match(1, 4), NUMBER);
        is("match(0, 1)", x.match(0, 1), 0);
    }

    private static void matchTies() {
        DUE.part("promise 23, ties");
        OldMap x = still();
        x.thing(0, 0, 0, 0);
        x.thing(0, 0, 0, 0);
        x.thing(1, 0, 5, 5);
        is("of one for two the first old has it", x.match(0, 0), 0);
        is("and the second has none", x.match(0, 1), NONE);
        x.thing(1, 0, 5, 5);
        x.thing(1, 0, 5, 5);
        is("the lesser new one first", x.match(0, 0), 0);
        is("then the next", x.match(0, 1), 1);
        x.rule(1, 0);
        is("none is cheaper", x.match(0, 0), NONE);
        x.sweep(1);
        x.thing(1, 0, 0, 0);
        is("as cheap as none: a new one stands before none", x.match(0, 0), 0);
    }

    private static void cost() {
        DUE.part("promise 24");
        OldMap x = new OldMap();
        for (int v : NO_KIND) {
            is("cost(" + v + ")", x.cost(v), NUMBER);
        }
        is("cost(0)", x.cost(0), FEW);
        x.point(0, 0, 0, 0);
        x.point(0, 0, 1, -1);
        is("cost(0) of nothing", x.cost(0), 0);
        is("cost(1)", x.cost(1), FEW);
        x.thing(1, 0, 4, 4);
        is("new ones alone cost nothing", x.cost(0), 0);
        x.thing(0, 0, 3, 4);
        // Carried to (7/2, 7/2): halves go upwards, to (4, 4).
        is("halves upwards", x.cost(0), 0);
        x.move(1, 1, -1, 1);
        // Carried to (5/2, 9/2), rounded (3, 5).
        is("cost(0)", x.cost(0), 2);
        x.sweep(0);
        x.sweep(1);
        x.thing(0, 0, 0, -5);
        x.thing(1, 0, 0, -5);
        // Carried to (-1/2, -9/2), rounded (0, -4).
        is("halves upwards below 0", x.cost(0), 1);
        x.thing(0, 1, 0, 0);
        is("a lost one", x.cost(0), 101);
        x.rule(1, 2000);
        is("a dearer lost one", x.cost(0), 2001);
        x.rule(1, 0);
        is("lost ones that cost nothing", x.cost(0), 0);
    }

    private static void left() {
        DUE.part("promise 25");
        OldMap x = new OldMap();
        for (int v : NO_KIND) {
            is("left(" + v + ")", x.left(v), NUMBER);
        }
        is("left(0)", x.left(0), FEW);
        x.point(0, 0, 0, 0);
        is("left(0) of none", x.left(0), NONE);
        is("left(2)", x.left(2), FEW);
        x.thing(1, 0, 9, 9);
        is("left(0) of one", x.left(0), 0);
        x.thing(0, 0, 0, 0);
        is("left(0): it is given", x.left(0), NONE);
        x.thing(1, 0, 1, 1);
        is("left(0): the nearer one is given", x.left(0), 0);
        x.thing(1, 1, 1, 1);
        x.thing(0, 0, 8, 8);
        is("left(0): of another kind", x.left(0), 2);
        x.rule(1, 0);
        is("left(0): none is given", x.left(0), 0);
    }

    private static void many() {
        DUE.part("promise 26");
        OldMap x = square();
        x.triangle(0, 1, 2);
        x.triangle(3, 2, 1);
        x.triangle(0, 3, 1);
        x.thing(0, 0, 0, 0);
        x.thing(0, 0, 0, 0);
        x.thing(1, 0, 0, 0);
        x.put(0, false);
        x.sure(3, false);
        manyAre(x, 4, 2, 3, 0, 0, 2, 1, 2, 2);
        x.move(3, 1, 7, 7);
        manyAre(x, 4, 2, 3, 1, 0, 2, 1, 2, 2);
        x.move(3, 1, 40, -30);
        manyAre(x, 4, 2, 3, 1, 1, 2, 1, 1, 0);
        for (int v : new int[] {-1, 9, LOW, HIGH}) {
            is("many(" + v + ")", x.many(v), NUMBER);
        }
    }

    private static void keep() {
        DUE.part("promise 27");
        OldMap x = square();
        is("keep()", x.keep(), 1);
        x.point(1, 1, 1, 1);
        is("keep() again", x.keep(), 1);
        x.point(2, 2, 2, 2);
        is("keep() changes nothing", x.many(0), 6);
        is("back()", x.back(), 1);
        is("the latest is kept", x.many(0), 5);
        OldMap empty = new OldMap();
        is("keep() of nothing", empty.keep(), 1);
        empty.point(0, 0, 0, 0);
        empty.thing(0, 0, 0, 0);
        is("back() to nothing", empty.back(), 1);
        manyAre(empty, 0, 0, 0, 0, 0, 0, 0, 0, 0);
    }

    private static void back() {
        DUE.part("promise 28");
        OldMap x = square();
        is("back() before anything is kept", x.back(), NONE);
        is("many(0)", x.many(0), 4);
        x.triangle(0, 1, 2);
        x.thing(0, 1, 5, 5);
        x.thing(1, 1, 9, 9);
        x.thing(1, 1, 12, 18);
        x.sure(2, false);
        x.put(1, false);
        x.keep();
        for (int turn = 0; turn < 2; turn++) {
            x.rule(0, 77);
            x.rule(1, 88);
            x.move(0, 0, -9, -9);
            x.move(0, 1, 9, -9);
            x.sure(2, true);
            x.put(1, true);
            x.point(4, 5, 6, 7);
            x.triangle(1, 3, 2);
            x.sweep(0);
            x.sweep(1);
            x.thing(0, 2, 0, 0);
            x.thing(1, 2, 0, 0);
            x.thing(1, 3, 0, 0);
            is("back()", x.back(), 1);
            manyAre(x, 4, 2, 1, 0, 0, 1, 2, 0, 0);
            is("of(0, 0)", x.of(0, 0), 0);
            is("of(0, 3)", x.of(0, 3), 0);
            is("of(1, 5)", x.of(1, 5), 0);
            is("of(2, 4)", x.of(2, 4), 0);
            is("area(0, 1)", x.area(0, 1), 600);
            is("match(0, 0)", x.match(0, 0), 1);
            is("cost(0)", x.cost(0), 5);
            is("the rules are not kept", x.rule(0, 77), 77);
            is("the rules are not kept", x.rule(1, 88), 88);
        }
        is("the triangle that comes is the next one", x.triangle(1, 3, 2), 1);
    }

    private static void refusedCallsChangeNothing() {
        DUE.part("refused calls");
        OldMap x = square();
        x.triangle(0, 1, 2);
        x.thing(0, 1, 5, 5);
        x.thing(1, 1, 9, 9);
        x.point(0, 0, 0, 1001);
        x.move(0, 2, 5, 5);
        x.move(0, 0, 5, 1001);
        x.sure(4, false);
        x.put(-1, false);
        x.drop(3);
        x.rule(0, 1001);
        x.rule(1, -1);
        x.rule(2, 5);
        x.triangle(0, 1, 1);
        x.thing(2, 0, 0, 0);
        x.thing(0, 6, 0, 0);
        x.sweep(2);
        x.back();
        manyAre(x, 4, 4, 1, 0, 0, 1, 1, 0, 0);
        is("of(0, 0)", x.of(0, 0), 0);
        is("rule(0, 10)", x.rule(0, 10), 10);
        is("rule(1, 100)", x.rule(1, 100), 100);
    }

    /** Triangles of the least area that there is, and the first of all turned over or flat. */
    private static void smallTriangles() {
        DUE.part("small triangles");
        OldMap x = new OldMap();
        x.point(0, 0, 0, 0);
        x.point(1, 0, 1, 0);
        x.point(0, 1, 0, -1);
        x.point(1, 1, 1, -1);
        x.triangle(0, 1, 2);
        x.triangle(3, 1, 2);
        is("area(0, 1)", x.area(0, 1), 1);
        is("state(0)", x.state(0), 1);
        is("state(1)", x.state(1), 1);
        is("within(1, 1, -1)", x.within(1, 1, -1), 1);
        is("within(0, 0, 0)", x.within(0, 0, 0), 0);
        is("within(0, 2, 0)", x.within(0, 2, 0), NONE);
        is("meet(0, 1, 0)", x.meet(0, 1, 0), 0);
        x.triangle(1, 0, 3);
        is("meet(0, 2, 0)", x.meet(0, 2, 0), 1);
        is("meet(1, 2, 1)", x.meet(1, 2, 1), 1);
        manyAre(x, 4, 4, 3, 3, 0, 0, 0, 2, 2);
        x.keep();
        x.move(0, 0, 2, -1);
        manyAre(x, 4, 4, 3, 1, 1, 0, 0, 0, 1);
        x.back();
        manyAre(x, 4, 4, 3, 3, 0, 0, 0, 2, 2);
        OldMap y = new OldMap();
        for (int k = 0; k < 6; k++) {
            y.point(k % 3 == 1 ? 10 : 0, k % 3 == 2 ? 10 : k / 3 * -20, k, k * k);
        }
        y.triangle(0, 1, 2);
        y.triangle(3, 4, 5);
        y.move(5, 0, 5, -1);
        is("only the first side of the first parts them", y.meet(0, 1, 0), 0);
        is("from the other one", y.meet(1, 0, 0), 0);
        y.move(5, 0, 5, 1);
        is("across that side", y.meet(0, 1, 0), 1);
    }

    /** As many points, triangles and things as may be. */
    private static void fullTable() {
        DUE.part("full table");
        OldMap x = new OldMap();
        for (int k = 0; k < 12; k++) {
            x.point(k, k * k, k, k * k);
        }
        for (int k = 0; k < 10; k++) {
            x.triangle(k, k + 1, k + 2);
        }
        for (int k = 0; k < 6; k++) {
            x.thing(0, 0, k, 0);
            x.thing(1, 0, 5 - k, 0);
        }
        x.keep();
        manyAre(x, 12, 12, 10, 0, 0, 6, 6, 9, 9);
        is("within none of ten", x.within(0, 0, 999), NONE);
        is("within the last", x.within(0, 11, 121), 9);
        for (int kind = 0; kind < 3; kind++) {
            is("lying(" + kind + ")", x.lying(kind), 0);
            is("cost(" + kind + ")", x.cost(kind), 0);
            is("left(" + kind + ")", x.left(kind), NONE);
            for (int k = 0; k < 6; k++) {
                is("match(" + kind + ", " + k + ")", x.match(kind, k), 5 - k);
            }
        }
        x.rule(0, 0);
        x.move(9, 1, 500, 500);
        x.move(10, 1, 0, 0);
        x.move(11, 1, -500, 500);
        for (int kind = 0; kind < 3; kind++) {
            is("the last of all sets of three", x.lying(kind), 512 + 1024 + 2048);
        }
        x.move(8, 1, 0, 300);
        is("four lie", x.lying(1), NONE);
        x.back();
        is("lying(1)", x.lying(1), 0);
        is("area(0, 1)", x.area(0, 1), 2);
        is("area(9, 1)", x.area(9, 1), 2);
        is("cost(2)", x.cost(2), 0);
    }

    /** Twelve points at the corners of what may be: nothing overflows. */
    private static void greatNumbers() {
        DUE.part("great numbers");
        OldMap x = new OldMap();
        for (int k = 0; k < 12; k++) {
            int side = k % 2 == 0 ? 1000 : -1000;
            int other = k % 4 < 2 ? 1000 : -999 + k;
            x.point(side, other, -other, k == 11 ? -1000 : side);
        }
        OldMapModelOf model = new OldMapModelOf(x, 12);
        for (int kind = 0; kind < 3; kind++) {
            for (int what = 0; what < 8; what++) {
                is("bend(" + kind + ", " + what + ")", x.bend(kind, what), model.bend(kind, what));
            }
            for (int what = 0; what < 4; what++) {
                is("miss(" + kind + ", " + what + ")", x.miss(kind, what), model.miss(kind, what));
                is("carry", x.carry(kind, -1000, 1000, what), model.carry(kind, -1000, 1000, what));
            }
        }
    }

    /** The model with an object's first points, all of them sure and in. */
    private static final class OldMapModelOf {
        private final OldMapModel model = new OldMapModel();

        OldMapModelOf(OldMap x, int points) {
            for (int k = 0; k < points; k++) {
                model.point(x.of(k, 0), x.of(k, 1), x.of(k, 2), x.of(k, 3));
            }
        }

        long bend(int kind, int what) {
            return model.bend(kind, what);
        }

        long miss(int kind, int what) {
            return model.miss(kind, what);
        }

        long carry(int kind, int x, int y, int what) {
            return model.carry(kind, x, y, what);
        }
    }
}
