/** Promises 7 to 11 and 14, and what the terms say of BENDS, but for THE LYING POINTS. */
final class BendBoundaries extends Boundaries {
    private static final int[] NO_PART = notBelow(4);

    BendBoundaries(Due due, Sentences sentences) {
        super(due, sentences);
    }

    @Override
    void run() {
        fractions();
        kinds();
        leastSquares();
        suffice();
        bend();
        carry();
        off();
        miss();
        greatNumbers();
        isBeyond();
        beyond();
        rule();
    }

    private void fractions() {
        says(TERMS, "All numbers are whole; fractions are told above and below a line, cleared, that below above 0 (0 is 0 / 1).");
        OldMap x = shifts(0, -1);
        are("-1/2 as a", what -> x.bend(0, what), -1, 2, 0, 1);
        are("-1/2 as where a place goes to", what -> x.carry(0, 0, 0, what), -1, 2, 0, 1);
        are("1/2 off", what -> x.off(0, 0, what), 1, 2, 0, 1);
        are("-1/2 off", what -> x.off(0, 1, what), -1, 2, 0, 1);
        are("1/2 missed", what -> x.miss(0, what), 1, 2);
        OldMap y = shifts(0, 0, 0, 2);
        are("2/4 is cleared", what -> y.bend(0, what), 1, 2);
        are("3 is 3/1", what -> y.miss(0, what), 3, 1);
        OldMap z = shifts(1, -1);
        are("0 is 0/1", what -> z.bend(0, what), 0, 1, 0, 1, 1, 1, 0, 1);
        are("0 is 0/1, where it goes to", what -> z.carry(0, 0, 0, what), 0, 1, 0, 1);
        OldMap w = still(0, 0, 3, 4);
        are("0 off is 0/1", what -> w.off(1, 1, what), 0, 1, 0, 1);
        are("0 missed is 0/1", what -> w.miss(2, what), 0, 1, 0, 1);
    }

    private void kinds() {
        says(TERMS, "BENDS: 0 SHIFT: (x, y) goes to (x + a, y + b).");
        OldMap x = points(1, 2, 10, 20);
        are("bend", what -> x.bend(0, what), 9, 1, 18, 1, 1, 1, 0, 1);
        are("carry", what -> x.carry(0, -7, 8, what), 2, 1, 26, 1);
        says(TERMS, "1 TURNED: to (p x - q y + a, q x + p y + b).");
        OldMap y = points(0, 0, 5, 7, 1, 0, 8, 11, 0, 1, 1, 10);
        are("bend", what -> y.bend(1, what), 5, 1, 7, 1, 3, 1, 4, 1);
        are("carry", what -> y.carry(1, 2, -3, what), 23, 1, 6, 1);
        says(TERMS, "2 SHRUNK: to (p x + a, q y + b).");
        OldMap z = points(0, 0, 5, 7, 2, 0, 6, 7, 0, 3, 5, 6);
        are("bend", what -> z.bend(2, what), 5, 1, 7, 1, 1, 2, -1, 3);
        are("carry", what -> z.carry(2, -1, -1, what), 9, 2, 22, 3);
    }

    private void leastSquares() {
        says(TERMS, "THE BEND of a kind: a, b (p, q) being those fractions for which the squares of how far each POINT that COUNTS comes from its NEW place, along x and along y, are least together.");
        OldMap x = shifts(0, 0, 0, 0, 7);
        are("the mean, not the middle one", what -> x.bend(0, what), 7, 5);
        OldMap y = points(0, 0, 0, 0, 1, 0, 1, 0, 0, 1, 0, 2);
        are("SHIFT", what -> y.bend(0, what), 0, 1, 1, 3, 1, 1, 0, 1);
        are("TURNED", what -> y.bend(1, what), -1, 4, 1, 4, 3, 2, -1, 4);
        are("SHRUNK", what -> y.bend(2, what), 0, 1, 0, 1, 1, 1, 2, 1);
        y.point(500, -300, 77, 1000);
        y.point(-1000, 900, 400, 3);
        y.sure(3, false);
        y.put(4, false);
        are("those that don't COUNT have no share", what -> y.bend(1, what), -1, 4, 1, 4, 3, 2, -1, 4);
        OldMap z = points(5, 5, 9, 9, 8, 5, 9, 9, 5, 9, 9, 9);
        are("all on one NEW place, TURNED", what -> z.bend(1, what), 9, 1, 9, 1, 0, 1, 0, 1);
        are("all on one NEW place, SHRUNK", what -> z.bend(2, what), 9, 1, 9, 1, 0, 1, 0, 1);
    }

    private void suffices(String what, OldMap x, boolean shift, boolean turned, boolean shrunk) {
        boolean[] enough = {shift, turned, shrunk};
        for (int kind = 0; kind < 3; kind++) {
            holds(what + ": bend(" + kind + ", 1)", x.bend(kind, 1) > 0 == enough[kind]);
            holds(what + ": bend(" + kind + ", 2)", x.bend(kind, 2) == NOTHING != enough[kind]);
            holds(what + ": beyond(" + kind + ")", x.beyond(kind) == FEW != enough[kind]);
        }
    }

    private void suffice() {
        says(TERMS, "POINTS SUFFICE, if there are: for SHIFT one that COUNTS");
        OldMap x = new OldMap();
        suffices("none", x, false, false, false);
        x.point(3, 4, 5, 6);
        suffices("one", x, true, false, false);
        x.sure(0, false);
        suffices("one that is DOUBTFUL", x, false, false, false);
        x.sure(0, true);
        x.put(0, false);
        suffices("one that is OUT", x, false, false, false);
        says(TERMS, "for TURNED two that COUNT with unlike OLD places");
        suffices("two with like OLD places", points(3, 4, 5, 6, 3, 4, 9, 9), true, false, false);
        suffices("unlike x by 1", points(3, 4, 5, 6, 4, 4, 5, 6), true, true, false);
        suffices("unlike y by 1", points(3, 4, 5, 6, 3, 3, 5, 6), true, true, false);
        OldMap y = points(3, 4, 5, 6, 9, 9, 9, 9, 3, 4, 0, 0);
        y.sure(1, false);
        suffices("the unlike one is DOUBTFUL", y, true, false, false);
        y.sure(1, true);
        y.put(1, false);
        suffices("the unlike one is OUT", y, true, false, false);
        y.move(2, 0, 3, 5);
        suffices("another one became unlike", y, true, true, false);
        suffices("twelve with like OLD places", shifts(1, 2, 3, 4, 5, 6, 7, 8, 9, 10, 11, 12),
                true, false, false);
        suffices("far apart", still(-1000, -1000, 1000, 1000), true, true, true);
        says(TERMS, "for SHRUNK two that COUNT with unlike x, and two with unlike y.");
        suffices("like x", points(3, 4, 5, 6, 3, 5, 5, 6, 3, 6, 7, 7), true, true, false);
        suffices("like y", points(3, 4, 5, 6, 4, 4, 5, 6, 5, 4, 7, 7), true, true, false);
        suffices("two unlike in both", points(3, 4, 5, 6, 4, 5, 5, 6), true, true, true);
        OldMap z = points(3, 4, 5, 6, 4, 4, 5, 6, 3, 5, 5, 6);
        suffices("two unlike in x, two others in y", z, true, true, true);
        z.put(1, false);
        suffices("the one with unlike x is OUT", z, true, true, false);
        z.put(1, true);
        z.sure(2, false);
        suffices("the one with unlike y is DOUBTFUL", z, true, true, false);
    }

    private void bend() {
        OldMap x = points(0, 0, 0, 0, 1, 0, 1, 0, 0, 1, 0, 2);
        says(7, "THE BEND of a kind: what = 0 a above, 1 below the line, 2, 3 b, 4, 5 p, 6, 7 q");
        are("TURNED", what -> x.bend(1, what), -1, 4, 1, 4, 3, 2, -1, 4, NOTHING);
        says(7, "(of a SHIFT p and q are told as 1 and 0)");
        are("SHIFT", what -> x.bend(0, what), 0, 1, 1, 3, 1, 1, 0, 1, NOTHING);
        says(7, "NOTHING: there is no such kind");
        for (int what = 0; what < 8; what++) {
            int w = what;
            each("the kind", NO_KIND, v -> x.bend(v, w), NOTHING);
        }
        says(7, ", another what");
        for (int kind = 0; kind < 3; kind++) {
            int k = kind;
            each("of kind " + kind + ", what", notBelow(8), v -> x.bend(k, v), NOTHING);
        }
        says(7, ", or POINTS don't SUFFICE.");
        OldMap few = shifts(1, 2);
        for (int what = 0; what < 8; what++) {
            is("SHIFT", new OldMap().bend(0, what), NOTHING);
            is("TURNED", few.bend(1, what), NOTHING);
            is("SHRUNK, unlike in x alone", still(0, 0, 1, 0).bend(2, what), NOTHING);
            is("SHRUNK, unlike in y alone", still(0, 0, 0, 1).bend(2, what), NOTHING);
        }
    }

    private void carry() {
        says(8, "Where THE BEND of a kind carries a place of the old map to: what = 0 X above, 1 below the line, 2, 3 Y.");
        OldMap x = points(0, 0, 0, 0, 1, 0, 1, 0, 0, 1, 0, 2);
        are("SHIFT", what -> x.carry(0, 4, -4, what), 4, 1, -11, 3);
        are("TURNED", what -> x.carry(1, 4, -4, what), 19, 4, -27, 4);
        are("SHRUNK", what -> x.carry(2, 4, -4, what), 4, 1, -8, 1);
        for (int v : EDGE) {
            are("x at the edge", what -> x.carry(2, v, 0, what), v, 1, 0, 1);
            are("y at the edge", what -> x.carry(2, 0, v, what), 0, 1, 2 * v, 1);
        }
        says(8, "NOTHING: there is no such kind");
        each("the kind", NO_KIND, v -> x.carry(v, 0, 0, 0), NOTHING);
        says(8, "a number isn't -1000 to 1000");
        for (int kind = 0; kind < 3; kind++) {
            int k = kind;
            each("x", TOO_FAR, v -> x.carry(k, v, 0, 1), NOTHING);
            each("y", TOO_FAR, v -> x.carry(k, 0, v, 1), NOTHING);
        }
        says(8, ", another what");
        for (int kind = 0; kind < 3; kind++) {
            int k = kind;
            each("what", NO_PART, v -> x.carry(k, 0, 0, v), NOTHING);
        }
        says(8, ", or POINTS don't SUFFICE.");
        for (int what = 0; what < 4; what++) {
            is("SHIFT", new OldMap().carry(0, 0, 0, what), NOTHING);
            is("TURNED", shifts(1, 2).carry(1, 0, 0, what), NOTHING);
            is("SHRUNK", still(0, 0, 1, 0).carry(2, 0, 0, what), NOTHING);
        }
    }

    private void off() {
        says(TERMS, "OFF of a POINT by THE BEND of a kind, along x: NEW X less where its OLD place goes to; likewise along y.");
        says(9, "OFF of a POINT by THE BEND of a kind: what = 0 along x above, 1 below the line, 2, 3 along y.");
        OldMap x = points(0, 0, 0, 0, 1, 0, 1, 0, 0, 1, 0, 2);
        are("SHIFT", what -> x.off(0, 2, what), 0, 1, 2, 3);
        are("TURNED, 0", what -> x.off(1, 0, what), 1, 4, -1, 4);
        are("TURNED, 1", what -> x.off(1, 1, what), -1, 4, 0, 1);
        are("TURNED, 2", what -> x.off(1, 2, what), 0, 1, 1, 4);
        x.point(4, -4, 1000, -1000);
        x.put(3, false);
        are("one that is OUT, SHRUNK", what -> x.off(2, 3, what), 996, 1, -992, 1);
        x.put(3, true);
        x.sure(3, false);
        are("one that is DOUBTFUL, TURNED", what -> x.off(1, 3, what), 3981, 4, -3973, 4);
        says(9, "NOTHING: there is no such POINT");
        each("of four, the POINT", notBelow(4), v -> x.off(0, v, 0), NOTHING);
        each("of 12, the POINT", notBelow(12), v -> full().off(2, v, 3), NOTHING);
        says(9, "no such POINT, kind, another what");
        each("the kind", NO_KIND, v -> x.off(v, 0, 0), NOTHING);
        each("the kind, with what = 1", NO_KIND, v -> x.off(v, 0, 1), NOTHING);
        for (int kind = 0; kind < 3; kind++) {
            int k = kind;
            each("what", NO_PART, v -> x.off(k, 0, v), NOTHING);
        }
        says(9, ", or POINTS don't SUFFICE.");
        OldMap y = shifts(1, 2);
        is("TURNED", y.off(1, 0, 0), NOTHING);
        is("SHRUNK", y.off(2, 1, 1), NOTHING);
        y.put(0, false);
        is("SHIFT by the one that COUNTS", y.off(0, 0, 0), -1);
        y.sure(1, false);
        are("SHIFT", what -> y.off(0, 1, what), NOTHING, NOTHING, NOTHING, NOTHING);
    }

    private void miss() {
        says(TERMS, "MISS: those least squares, together; of a SHRUNK one those along x, and those along y, by themselves.");
        says(10, "MISS of THE BEND of a kind: what = 0 above, 1 below the line (of SHRUNK along x; 2 above, 3 below along y).");
        OldMap x = points(0, 0, 0, 0, 1, 0, 1, 0, 0, 1, 0, 2);
        are("SHIFT", what -> x.miss(0, what), 2, 3);
        are("TURNED", what -> x.miss(1, what), 1, 4);
        OldMap y = points(0, 0, 0, 0, 2, 1, 3, 2, 1, 2, 1, 1);
        are("SHIFT, both ways", what -> y.miss(0, what), 8, 3);
        are("SHRUNK", what -> y.miss(2, what), 1, 6, 3, 2);
        y.point(900, 900, -900, -900);
        y.put(3, false);
        are("one that is OUT has no share", what -> y.miss(2, what), 1, 6, 3, 2);
        says(10, "NOTHING: there is no such kind");
        for (int what = 0; what < 4; what++) {
            int w = what;
            each("the kind", NO_KIND, v -> y.miss(v, w), NOTHING);
        }
        says(10, ", another what (2, 3 of other kinds, too)");
        each("of SHIFT, what", new int[] {-1, 2, 3, 4, LOW, HIGH}, v -> y.miss(0, v), NOTHING);
        each("of TURNED, what", new int[] {-1, 2, 3, 4, LOW, HIGH}, v -> y.miss(1, v), NOTHING);
        each("of SHRUNK, what", NO_PART, v -> y.miss(2, v), NOTHING);
        says(10, ", or POINTS don't SUFFICE.");
        for (int what = 0; what < 4; what++) {
            is("SHIFT", new OldMap().miss(0, what), NOTHING);
            is("TURNED", shifts(1, 2).miss(1, what), NOTHING);
            is("SHRUNK, like y", still(0, 0, 1, 0).miss(2, what), NOTHING);
            is("SHRUNK, like x", still(0, 0, 0, 1).miss(2, what), NOTHING);
        }
        are("one alone misses nothing", what -> shifts(700).miss(0, what), 0, 1);
    }

    /** What stands above and below the lines goes far beyond an int, and is cleared after that. */
    private void greatNumbers() {
        says(TERMS, "All numbers are whole");
        OldMap x = new OldMap();
        OldMap y = new OldMap();
        for (int k = 0; k < 12; k++) {
            int old = k < 6 ? 1000 : -1000;
            int now = k % 2 == 0 ? 1000 : -1000;
            x.point(old, old, now, now);
            y.point(old, old, -old, -old);
        }
        are("no share in the old ones, TURNED", what -> x.bend(1, what), 0, 1, 0, 1, 0, 1, 0, 1);
        are("no share in the old ones, TURNED", what -> x.miss(1, what), 24000000, 1);
        are("no share in the old ones, SHRUNK", what -> x.miss(2, what), 12000000, 1, 12000000, 1);
        are("SHIFT", what -> y.miss(0, what), 96000000, 1);
        are("turned by a half", what -> y.bend(1, what), 0, 1, 0, 1, -1, 1, 0, 1);
        OldMap z = points(0, 0, -1000, -1000, 1, 0, 1000, 1000);
        are("greatest p and q", what -> z.bend(1, what), -1000, 1, -1000, 1, 2000, 1, 2000, 1);
        are("carried far", what -> z.carry(1, 1000, -1000, what), 3999000, 1, -1000, 1);
    }

    private void isBeyond() {
        says(TERMS, "BEYOND is n (0 to 1000; 10 at first)");
        is("10 off", shifts(10, -10).beyond(0), NONE);
        is("21/2 off", shifts(10, -11).beyond(0), 0);
        is("n at first", new OldMap().rule(0, 3), 10);
        OldMap x = shifts(1000, -1000);
        is("1000 off", x.beyond(0), 0);
        x.rule(0, 1000);
        is("1000 off, n is 1000", x.beyond(0), NONE);
        x.move(0, 0, -1, 0);
        is("2001/2 off, n is 1000", x.beyond(0), 0);
        OldMap z = shifts(0, 0);
        z.rule(0, 0);
        is("0 off, n is 0", z.beyond(0), NONE);
        z.move(1, 1, 0, 1);
        is("1/2 off, n is 0", z.beyond(0), 0);
        says(TERMS, "a POINT is BEYOND if it is OFF by more than n, without its sign, along x or y.");
        is("-1 -1 2 off along x", byMore(3, 0), NONE);
        is("6 6 -12 off along x", byMore(-18, 0), 2);
        is("-6 -6 12 off along x", byMore(18, 0), 2);
        is("6 6 -12 off along y", byMore(0, -18), 2);
        is("-6 -6 12 off along y", byMore(0, 18), 2);
        is("5 5 -10 off along both", byMore(-15, 15), NONE);
        is("16/3 -32/3 off along x, 10 along y", byMore(-16, 15), 2);
        OldMap y = shifts(0, 0, 0, 0, 0, 0, 0, 0, 0, 0, 0, 10);
        is("110/12 off", y.beyond(0), NONE);
        y.move(11, 1, 11, 0);
        is("121/12 off", y.beyond(0), 11);
        y.move(11, 1, 0, -11);
        is("-121/12 off along y", y.beyond(0), 11);
    }

    /** Which of three is BEYOND when the last wants to be shifted so much more than the others. */
    private static int byMore(int alongX, int alongY) {
        return points(0, 0, 0, 0, 0, 0, 0, 0, 0, 0, alongX, alongY).beyond(0);
    }

    private void beyond() {
        says(11, "The least POINT that COUNTS and is BEYOND by THE BEND of a kind.");
        OldMap x = shifts(0, 500, 0, 0, 500);
        is("all are: the least", x.beyond(0), 0);
        x.rule(0, 200);
        is("200 off, 300 off", x.beyond(0), 1);
        x.put(1, false);
        is("400 off", x.beyond(0), 4);
        x.sure(4, false);
        is("those that are far off don't COUNT", x.beyond(0), NONE);
        OldMap y = points(0, 0, 0, 0, 10, 0, 10, 0, 0, 10, 0, 40);
        is("SHIFT", y.beyond(0), 2);
        y.rule(0, 7);
        is("TURNED: 15/2 off", y.beyond(1), 0);
        is("SHRUNK: none", y.beyond(2), NONE);
        says(11, "NUMBER: there is no such kind");
        each("the kind", NO_KIND, y::beyond, NUMBER);
        says(11, "FEW");
        are("none", new OldMap()::beyond, FEW, FEW, FEW);
        are("like OLD places", x::beyond, NONE, FEW, FEW);
        are("like x", still(0, 0, 0, 1)::beyond, NONE, NONE, FEW);
        says(11, "NONE: none is.");
        are("all agree", still(0, 0, 3, 4, 5, 6)::beyond, NONE, NONE, NONE);
        is("one by itself", shifts(1000).beyond(0), NONE);
    }

    private void rule() {
        says(14, "What = 0 BEYOND (0 to 1000), 1 LOST (0 to 2000) is v: what it was.");
        OldMap x = new OldMap();
        is("BEYOND at first", x.rule(0, 0), 10);
        is("0 may be", x.rule(0, 1000), 0);
        is("1000 may be", x.rule(0, 1000), 1000);
        is("LOST at first", x.rule(1, 0), 100);
        is("0 may be", x.rule(1, 2000), 0);
        is("2000 may be", x.rule(1, 5), 2000);
        is("BEYOND is another one", x.rule(0, 6), 1000);
        says(14, "NUMBER: another what");
        each("what", notBelow(2), v -> x.rule(v, 5), NUMBER);
        says(14, ", or v isn't as told.");
        each("BEYOND", new int[] {-1, 1001, 2000, LOW, HIGH}, v -> x.rule(0, v), NUMBER);
        each("LOST", new int[] {-1, 2001, LOW, HIGH}, v -> x.rule(1, v), NUMBER);
        is("BEYOND is as it was", x.rule(0, 10), 6);
        is("LOST is as it was", x.rule(1, 100), 5);
    }
}
