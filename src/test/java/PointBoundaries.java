/** Promises 1 to 6, and what the terms say of POINTS. */
final class PointBoundaries extends Boundaries {
    PointBoundaries(Due due, Sentences sentences) {
        super(due, sentences);
    }

    @Override
    void run() {
        constants();
        calls();
        newObject();
        comes();
        places();
        counts();
        move();
        sure();
        put();
        of();
    }

    private void constants() {
        says(TERMS, "The constants: `NUMBER = -1`: A number is none, or none that may be.");
        is("NUMBER", OldMap.NUMBER, NUMBER);
        is("a number that is none", new OldMap().sure(0, true), OldMap.NUMBER);
        is("a number that may not be", new OldMap().rule(0, 1001), OldMap.NUMBER);
        says(TERMS, "`FULL = -2`: There are as many as may be.");
        is("FULL", OldMap.FULL, FULL);
        is("one more", full().point(0, 0, 0, 0), OldMap.FULL);
        says(TERMS, "`FEW = -3`: POINTS don't SUFFICE.");
        is("FEW", OldMap.FEW, FEW);
        is("no POINT", new OldMap().beyond(0), OldMap.FEW);
        says(TERMS, "`FLAT = -4`: A TRIANGLE is FLAT.");
        is("FLAT", OldMap.FLAT, FLAT);
        is("three on a line", still(0, 0, 1, 1, 2, 2).triangle(0, 1, 2), OldMap.FLAT);
        says(TERMS, "`NONE = -5`: There is none.");
        is("NONE", OldMap.NONE, NONE);
        is("nothing kept", new OldMap().back(), OldMap.NONE);
        says(TERMS, "`NOTHING = -4000000000000000000L`: What is answered for a number that can't be told.");
        is("NOTHING", OldMap.NOTHING, NOTHING);
        is("a bend of no POINT", new OldMap().bend(0, 0), OldMap.NOTHING);
    }

    private void calls() {
        says(TERMS, "An object is used for at most 512 calls after it has been made");
        OldMap x = still(0, 0, 10, 20, 20, 0);
        for (int call = 4; call < 512; call += 2) {
            is("call " + call, x.move(0, 1, call, -call), 1);
            is("call " + (call + 1), x.of(0, 3), -call);
        }
        is("call 512", x.bend(0, 0), 170);
        says(TERMS, "what later calls answer is free.");
        for (int call = 513; call < 3000; call++) {
            x.point(call % 3, 5, 5, call % 7);
            x.lying(call % 3);
            x.keep();
            x.thing(call % 2, 0, call % 1000, 0);
            x.cost(0);
        }
        holds("but it answers", x.many(0) >= 0);
    }

    private void newObject() {
        says(1, "No POINTS, TRIANGLES, THINGS");
        OldMap x = new OldMap();
        are("many", x::many, 0, 0, 0, 0, 0, 0, 0, 0, 0, NUMBER);
        is("of(0, 0)", x.of(0, 0), -2000);
        is("state(0)", x.state(0), NUMBER);
        is("match(0, 0)", x.match(0, 0), NUMBER);
        is("within(0, 0, 0)", x.within(0, 0, 0), NONE);
        is("sweep(0)", x.sweep(0), 0);
        is("sweep(1)", x.sweep(1), 0);
        full().keep();
        is("an object has nothing of another one", new OldMap().many(0), 0);
        says(1, "nothing is kept");
        is("back()", x.back(), NONE);
        x.point(0, 0, 0, 0);
        is("back() when there is something", x.back(), NONE);
        is("many(0)", x.many(0), 1);
        is("back() when another object keeps", new OldMap().back(), NONE);
    }

    private void comes() {
        says(TERMS, "1. POINTS are numbered from 0 as they come, 12 at most");
        OldMap x = new OldMap();
        for (int k = 0; k < 12; k++) {
            is("the number of the next", x.point(k, -k, 100 + k, 200 + k), k);
            is("how many there are then", x.many(0), k + 1);
        }
        says(2, "A POINT comes: its number.");
        for (int k = 0; k < 12; k++) {
            int point = k;
            are("of(" + k + ", .)", what -> x.of(point, what), k, -k, 100 + k, 200 + k, 1, 1);
        }
        is("one like another is one more", still(3, 3, 3, 3).many(0), 2);
        says(2, "FULL");
        is("the 13th", x.point(7, 7, 7, 7), FULL);
        is("the 13th, again", x.point(7, 7, 7, 7), FULL);
        is("many(0)", x.many(0), 12);
        are("of(11, .)", what -> x.of(11, what), 11, -11, 111, 211, 1, 1);
        are("of(12, .)", what -> x.of(12, what), -2000, -2000);
        x.sure(3, false);
        x.put(4, false);
        is("the 13th when some don't COUNT", x.point(7, 7, 7, 7), FULL);
    }

    private void places() {
        says(TERMS, "each has an OLD place (x, y) and a NEW one (X, Y), all -1000 to 1000");
        for (int v : EDGE) {
            for (int which = 0; which < 4; which++) {
                int[] at = {1, 2, 3, 4};
                at[which] = v;
                OldMap x = points(at);
                is("comes with " + v + " as number " + which, x.many(0), 1);
                are("of", what -> x.of(0, what), at[0], at[1], at[2], at[3]);
            }
        }
        says(2, "NUMBER: a place is beyond");
        OldMap x = new OldMap();
        each("x is", TOO_FAR, v -> x.point(v, 2, 3, 4), NUMBER);
        each("y is", TOO_FAR, v -> x.point(1, v, 3, 4), NUMBER);
        each("X is", TOO_FAR, v -> x.point(1, 2, v, 4), NUMBER);
        each("Y is", TOO_FAR, v -> x.point(1, 2, 3, v), NUMBER);
        is("many(0)", x.many(0), 0);
        is("the next is the first", x.point(0, 0, 0, 0), 0);
    }

    private void counts() {
        says(TERMS, "it is SURE or DOUBTFUL, IN or OUT (SURE and IN as it comes)");
        OldMap x = shifts(1, 4);
        is("SURE as it comes", x.of(0, 4), 1);
        is("IN as it comes", x.of(0, 5), 1);
        x.sure(0, false);
        x.put(0, false);
        x.point(0, 0, 0, 0);
        is("the next is SURE again", x.of(2, 4), 1);
        is("the next is IN again", x.of(2, 5), 1);
        says(TERMS, "Those that are SURE and IN COUNT.");
        for (int set = 0; set < 4; set++) {
            OldMap y = shifts(1, 4);
            y.sure(0, set % 2 == 1);
            y.put(0, set / 2 == 1);
            is("many(1) of " + set, y.many(1), set == 3 ? 2 : 1);
            is("a of " + set, y.bend(0, 0), set == 3 ? 5 : 4);
            is("below its line", y.bend(0, 1), set == 3 ? 2 : 1);
        }
    }

    private void move() {
        says(3, "The OLD (map 0) or the NEW (1) place of a POINT becomes another one: 1.");
        for (int v : EDGE) {
            OldMap x = points(1, 2, 3, 4, 5, 6, 7, 8);
            is("the OLD place", x.move(1, 0, v, -v), 1);
            are("of(1, .)", what -> x.of(1, what), v, -v, 7, 8, 1, 1);
            is("the NEW place", x.move(0, 1, -v, v), 1);
            are("of(0, .)", what -> x.of(0, what), 1, 2, -v, v, 1, 1);
            is("to where it is", x.move(0, 1, -v, v), 1);
        }
        OldMap y = points(1, 2, 3, 4);
        y.sure(0, false);
        y.put(0, false);
        is("one that is DOUBTFUL and OUT", y.move(0, 0, 8, 9), 1);
        are("of(0, .)", what -> y.of(0, what), 8, 9, 3, 4, 0, 0);
        OldMap x = full();
        is("the last of 12", x.move(11, 1, 0, 0), 1);
        is("of(11, 3)", x.of(11, 3), 0);
        says(3, "NUMBER: there is no such POINT");
        each("of 12, the POINT", notBelow(12), v -> x.move(v, 0, 0, 0), NUMBER);
        each("of one, the POINT", notBelow(1), v -> y.move(v, 1, 0, 0), NUMBER);
        each("of none, the POINT", new int[] {-1, 0, 1}, v -> new OldMap().move(v, 0, 0, 0), NUMBER);
        says(3, ", map, or the place is beyond.");
        each("the map", NO_MAP, v -> y.move(0, v, 0, 0), NUMBER);
        each("x, on the old map,", TOO_FAR, v -> y.move(0, 0, v, 0), NUMBER);
        each("y, on the old map,", TOO_FAR, v -> y.move(0, 0, 0, v), NUMBER);
        each("x, on the new map,", TOO_FAR, v -> y.move(0, 1, v, 0), NUMBER);
        each("y, on the new map,", TOO_FAR, v -> y.move(0, 1, 0, v), NUMBER);
        are("it is where it was", what -> y.of(0, what), 8, 9, 3, 4, 0, 0);
    }

    private void sure() {
        says(4, "A POINT is SURE (true) or DOUBTFUL: 1 if that is new, else 0.");
        OldMap x = full();
        for (int k = 0; k < 12; k += 11) {
            is("SURE as it came", x.sure(k, true), 0);
            is("DOUBTFUL", x.sure(k, false), 1);
            is("of(k, 4)", x.of(k, 4), 0);
            is("of(k, 5)", x.of(k, 5), 1);
            is("DOUBTFUL already", x.sure(k, false), 0);
            is("of(k, 4)", x.of(k, 4), 0);
            is("many(1)", x.many(1), 11);
            is("SURE", x.sure(k, true), 1);
            is("of(k, 4)", x.of(k, 4), 1);
        }
        x.put(5, false);
        is("one that is OUT", x.sure(5, false), 1);
        is("it stays OUT", x.of(5, 5), 0);
        is("SURE, and OUT still", x.sure(5, true), 1);
        is("it doesn't COUNT", x.many(1), 11);
        says(4, "NUMBER: there is none such.");
        each("of 12, the POINT", notBelow(12), v -> x.sure(v, false), NUMBER);
        each("of none, the POINT", notBelow(0), v -> new OldMap().sure(v, true), NUMBER);
        OldMap y = still(1, 1);
        each("of one, the POINT", notBelow(1), v -> y.sure(v, false), NUMBER);
        is("the one is SURE", y.of(0, 4), 1);
    }

    private void put() {
        says(5, "A POINT is IN, or OUT: 1 if that is new, else 0.");
        OldMap x = full();
        for (int k = 0; k < 12; k += 11) {
            is("IN as it came", x.put(k, true), 0);
            is("OUT", x.put(k, false), 1);
            is("of(k, 5)", x.of(k, 5), 0);
            is("of(k, 4)", x.of(k, 4), 1);
            is("OUT already", x.put(k, false), 0);
            is("of(k, 5)", x.of(k, 5), 0);
            is("many(1)", x.many(1), 11);
            is("IN", x.put(k, true), 1);
            is("of(k, 5)", x.of(k, 5), 1);
        }
        x.sure(5, false);
        is("one that is DOUBTFUL", x.put(5, false), 1);
        is("it stays DOUBTFUL", x.of(5, 4), 0);
        is("IN, and DOUBTFUL still", x.put(5, true), 1);
        is("it doesn't COUNT", x.many(1), 11);
        says(5, "NUMBER: there is none such.");
        each("of 12, the POINT", notBelow(12), v -> x.put(v, false), NUMBER);
        each("of none, the POINT", notBelow(0), v -> new OldMap().put(v, true), NUMBER);
        OldMap y = still(1, 1);
        each("of one, the POINT", notBelow(1), v -> y.put(v, false), NUMBER);
        is("the one is IN", y.of(0, 5), 1);
    }

    private void of() {
        says(6, "Of a POINT: what = 0 x, 1 y, 2 X, 3 Y, 4 1 if it is SURE, else 0, 5 1 if it is IN, else 0.");
        OldMap x = points(-1, -2, -3, -4, 11, 12, 13, 14);
        are("numbers that refusals have, too", what -> x.of(0, what), -1, -2, -3, -4, 1, 1);
        are("of(1, .)", what -> x.of(1, what), 11, 12, 13, 14, 1, 1);
        x.sure(1, false);
        are("DOUBTFUL", what -> x.of(1, what), 11, 12, 13, 14, 0, 1);
        x.put(1, false);
        are("and OUT", what -> x.of(1, what), 11, 12, 13, 14, 0, 0);
        x.sure(1, true);
        are("SURE, and OUT", what -> x.of(1, what), 11, 12, 13, 14, 1, 0);
        says(6, "NUMBER is answered as -2000: there is none such");
        for (int what = 0; what < 6; what++) {
            int w = what;
            each("of two, the POINT", notBelow(2), v -> x.of(v, w), -2000);
            each("of 12, the POINT", notBelow(12), v -> full().of(v, w), -2000);
            is("of none", new OldMap().of(0, w), -2000);
        }
        says(6, ", another what.");
        each("of(0, .)", notBelow(6), v -> x.of(0, v), -2000);
        each("both", notBelow(6), v -> x.of(v, v), -2000);
    }
}
