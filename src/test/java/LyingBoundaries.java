/** Promises 12 and 13, and what the terms say of THE LYING POINTS. */
final class LyingBoundaries extends Boundaries {
    LyingBoundaries(Due due, Sentences sentences) {
        super(due, sentences);
    }

    @Override
    void run() {
        atMostThree();
        suffice();
        ofThen();
        fewestAndLeast();
        lying();
        drop();
    }

    /** Shifts that must agree wholly. */
    private static OldMap strict(int... along) {
        OldMap x = shifts(along);
        x.rule(0, 0);
        return x;
    }

    private void atMostThree() {
        says(TERMS, "THE LYING POINTS of a kind: of all sets of at most 3 POINTS that COUNT");
        is("none lies", strict(5, 5, 5).lying(0), 0);
        is("one lies", strict(5, 5, 6).lying(0), 4);
        is("two lie", strict(5, 5, 6, 7).lying(0), 4 + 8);
        is("three lie", strict(5, 5, 6, 7, 8).lying(0), 4 + 8 + 16);
        is("four lie", strict(5, 5, 6, 7, 8, 9).lying(0), NONE);
        is("none agrees with another, of four", strict(5, 6, 7, 8).lying(0), 1 + 2 + 4);
        is("none agrees with another, of five", strict(5, 6, 7, 8, 9).lying(0), NONE);
        OldMap x = strict(0, 1, 2, 3, 9, 9, 9, 9, 9, 9, 9, 9);
        is("four of twelve", x.lying(0), NONE);
        x.move(0, 1, 9, 0);
        is("three of twelve", x.lying(0), 2 + 4 + 8);
        OldMap last = strict(9, 9, 9, 9, 9, 9, 9, 9, 9, 1, 2, 3);
        is("the last three of twelve", last.lying(0), 512 + 1024 + 2048);
        OldMap y = strict(7, 5, 5, 6, 8);
        y.put(0, false);
        y.sure(4, false);
        is("those that don't COUNT are in no set", y.lying(0), 8);
        y.put(1, false);
        is("of two that COUNT the least", y.lying(0), 4);
    }

    private void suffice() {
        says(TERMS, "which can be put OUT so that POINTS SUFFICE still");
        OldMap x = points(1, 5, 1, 900, 0, 0, 0, 0, 0, 1, 0, 1, 0, 2, 0, 2);
        is("SHRUNK: without 0 there would be no unlike x", x.lying(2), 2 + 4);
        x.point(0, 3, 0, 3);
        is("so three must leave", x.lying(2), 2 + 4 + 8);
        x.point(0, 4, 0, 4);
        is("or more than may", x.lying(2), NONE);
        is("SHIFT may leave 0 out", x.lying(0), 1);
        is("TURNED may leave 0 out", x.lying(1), 1);
        OldMap y = points(5, 1, 900, 1, 0, 0, 0, 0, 1, 0, 1, 0, 2, 0, 2, 0);
        is("SHRUNK: without 0 there would be no unlike y", y.lying(2), 2 + 4);
        OldMap z = points(1, 0, 900, 0, 0, 0, 0, 0, 0, 0, 50, 0);
        is("TURNED: one of those with like places must stay", z.lying(1), 2);
        is("SHIFT: one must stay", strict(1, 2, 3).lying(0), 1 + 2);
    }

    private void ofThen() {
        says(TERMS, ", and none that COUNTS then is BEYOND by THE BEND of then");
        OldMap x = shifts(0, 0, 0, 100);
        is("all are BEYOND by the bend of now", x.beyond(0), 0);
        is("without the one none is", x.lying(0), 8);
        is("just 10 off then", shifts(0, 20, 500).lying(0), 4);
        is("more than 10 off then", shifts(0, 21, 500).lying(0), 1 + 2);
        is("along y", points(0, 0, 0, 0, 0, 0, 0, 21, 0, 0, 0, 500).lying(0), 1 + 2);
        OldMap y = shifts(0, 15, 30, 0);
        y.put(3, false);
        is("one that is OUT is asked neither now nor then", y.lying(0), 1);
        OldMap z = still(0, 0, 10, 0, 0, 10, 10, 10, 5, 5);
        z.move(4, 1, 900, -900);
        are("one of five, by each kind", z::lying, 16, 16, 16);
        z.move(0, 1, -900, 900);
        are("two of five, by each kind", z::lying, 17, 17, 17);
    }

    private void fewestAndLeast() {
        says(TERMS, ", the one with the fewest POINTS");
        is("{2} before {0, 1}", shifts(0, 0, 30).lying(0), 4);
        is("{0, 1} before {2, 3, 4}", strict(0, 0, 9, 9, 9).lying(0), 1 + 2);
        is("{3, 4} before {0, 1, 2}", strict(0, 0, 0, 9, 9).lying(0), 8 + 16);
        is("{11} before all", strict(0, 0, 0, 0, 0, 0, 0, 0, 0, 0, 0, 1).lying(0), 2048);
        says(TERMS, ", of several the least as bits (POINT k is 2 to the power of k).");
        is("{0} or {1}", strict(1, 2).lying(0), 1);
        is("{1, 2} or {0, 3}", strict(0, 50, 50, 0).lying(0), 2 + 4);
        is("{0, 1} or {2, 3}", strict(0, 0, 50, 50).lying(0), 1 + 2);
        is("{0, 2} or {1, 3}", strict(0, 50, 0, 50).lying(0), 1 + 4);
        is("{1, 2, 3} or {0, 1, 4}", strict(0, 90, 50, 50, 0).lying(0), 2 + 4 + 8);
        is("{0, 1, 4} or {2, 3, 4}", strict(0, 0, 50, 50, 90).lying(0), 1 + 2 + 16);
        for (int k = 0; k < 12; k++) {
            OldMap x = strict(0, 0, 0, 0, 0, 0, 0, 0, 0, 0, 0, 0);
            x.move(k, 1, 0, 1);
            is("POINT " + k + " alone", x.lying(0), 1 << k);
            is("put OUT", x.drop(0), 1);
            is("of(" + k + ", 5)", x.of(k, 5), 0);
        }
    }

    private void lying() {
        says(12, "THE LYING POINTS of a kind, as bits (0 if none is BEYOND as it is).");
        OldMap x = shifts(10, -10);
        is("just 10 off", x.lying(0), 0);
        x.rule(0, 9);
        is("more than 9 off", x.lying(0), 1);
        is("nothing is put OUT", x.many(1), 2);
        is("one by itself", shifts(1000).lying(0), 0);
        are("two that are unlike", still(0, 0, 500, 999)::lying, 0, 0, 0);
        says(12, "NUMBER: there is no such kind");
        each("the kind", NO_KIND, x::lying, NUMBER);
        says(12, "FEW");
        are("none", new OldMap()::lying, FEW, FEW, FEW);
        are("like OLD places", x::lying, 1, FEW, FEW);
        are("like y", still(0, 0, 1, 0)::lying, 0, 0, FEW);
        says(12, "NONE: there is no such set.");
        is("five that all disagree", strict(5, 6, 7, 8, 9).lying(0), NONE);
        OldMap y = points(0, 0, 0, 0, 0, 0, 100, 0, 0, 0, 200, 0, 0, 0, 300, 0, 0, 0, 400, 0,
                9, 9, 9, 9);
        are("at one place five disagree", y::lying, NONE, NONE, NONE);
    }

    private void drop() {
        says(13, "THE LYING POINTS of a kind are put OUT: how many.");
        is("none", shifts(10, -10).drop(0), 0);
        OldMap x = strict(5, 6, 6, 7, 6, 8, 6, 999);
        x.sure(7, false);
        is("three", x.drop(0), 3);
        are("IN are", k -> x.of(k, 5), 0, 1, 1, 0, 1, 0, 1, 1);
        are("SURE are", k -> x.of(k, 4), 1, 1, 1, 1, 1, 1, 1, 0);
        is("many(1)", x.many(1), 4);
        is("then none lies", x.lying(0), 0);
        is("so none is put OUT", x.drop(0), 0);
        is("they may come IN again", x.put(0, true), 1);
        is("and lie again", x.drop(0), 1);
        is("two", strict(5, 5, 6, 7).drop(0), 2);
        says(13, "NUMBER, FEW, NONE likewise.");
        each("the kind", NO_KIND, x::drop, NUMBER);
        is("of no POINT", new OldMap().drop(0), FEW);
        is("like OLD places, TURNED", x.drop(1), FEW);
        is("like OLD places, SHRUNK", x.drop(2), FEW);
        OldMap y = strict(5, 6, 7, 8, 9);
        is("five that all disagree", y.drop(0), NONE);
        is("none is put OUT", y.many(1), 5);
    }
}
