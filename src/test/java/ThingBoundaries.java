/** Promises 21 to 26, and what the terms say of THINGS. */
final class ThingBoundaries extends Boundaries {
    ThingBoundaries(Due due, Sentences sentences) {
        super(due, sentences);
    }

    @Override
    void run() {
        comes();
        kindsAndPlaces();
        sweep();
        gives();
        byTheKind();
        rounded();
        apart();
        lost();
        least();
        ties();
        match();
        cost();
        left();
        many();
    }

    /** A map that all bends leave as it is, with these old THINGS of one KIND on a line. */
    private static OldMap olds(int... alongX) {
        OldMap x = still(0, 0, 10, 20);
        return with(x, 0, alongX);
    }

    private static OldMap with(OldMap x, int map, int... alongX) {
        for (int place : alongX) {
            x.thing(map, 0, place, 0);
        }
        return x;
    }

    private void comes() {
        says(TERMS, "3. THINGS of each map (0 old, 1 new) are numbered from 0 as they come, 6 at most");
        OldMap x = still(0, 0);
        for (int k = 0; k < 6; k++) {
            is("the next old one", x.thing(0, 0, k, k), k);
            is("the next new one", x.thing(1, 0, k, k), k);
            is("old ones then", x.many(5), k + 1);
            is("new ones then", x.many(6), k + 1);
        }
        says(21, "A THING comes to a map: its number.");
        is("the first old one", new OldMap().thing(0, 5, 1, 2), 0);
        is("the first new one", new OldMap().thing(1, 5, 1, 2), 0);
        are("all twelve are there", old -> x.match(0, old), 0, 1, 2, 3, 4, 5);
        says(21, "FULL.");
        is("the 7th old one", x.thing(0, 0, 0, 0), FULL);
        is("the 7th new one", x.thing(1, 0, 0, 0), FULL);
        is("many(5)", x.many(5), 6);
        is("many(6)", x.many(6), 6);
        are("they are as they were", old -> x.match(0, old), 0, 1, 2, 3, 4, 5);
        OldMap y = with(new OldMap(), 0, 1, 2, 3, 4, 5, 6);
        is("the other map isn't full", y.thing(1, 0, 0, 0), 0);
        OldMap z = with(new OldMap(), 1, 1, 2, 3, 4, 5, 6);
        is("the other map isn't full", z.thing(0, 0, 0, 0), 0);
    }

    private void kindsAndPlaces() {
        says(TERMS, ", each with a KIND (0 to 5) and a place (each number -1000 to 1000).");
        for (int v : EDGE) {
            OldMap x = still(0, 0);
            is("old, x at the edge", x.thing(0, 0, v, 7), 0);
            is("new, x at the edge", x.thing(1, 0, v, 7), 0);
            is("old, y at the edge", x.thing(0, 5, 7, v), 1);
            is("new, y at the edge", x.thing(1, 5, 7, v), 1);
            is("cost(0)", x.cost(0), 0);
        }
        says(21, "NUMBER: there is no such map");
        OldMap x = new OldMap();
        each("the map", NO_MAP, v -> x.thing(v, 0, 0, 0), NUMBER);
        for (int map = 0; map < 2; map++) {
            int m = map;
            says(21, ", kind isn't 0 to 5");
            each("the KIND", notBelow(6), v -> x.thing(m, v, 0, 0), NUMBER);
            says(21, ", or the place is beyond");
            each("x", TOO_FAR, v -> x.thing(m, 0, v, 0), NUMBER);
            each("y", TOO_FAR, v -> x.thing(m, 0, 0, v), NUMBER);
            is("none has come", x.many(5 + map), 0);
        }
    }

    private void sweep() {
        says(22, "All THINGS of a map go: how many there were.");
        OldMap x = with(olds(1, 2, 3, 4, 5, 6), 1, 1, 2);
        is("six old ones", x.sweep(0), 6);
        is("many(5)", x.many(5), 0);
        is("the new ones stay", x.many(6), 2);
        is("none now", x.sweep(0), 0);
        is("numbers begin anew", x.thing(0, 0, 2, 0), 0);
        is("the one that came, and no former one", x.match(0, 0), 1);
        is("there is room for six", with(x, 0, 3, 4, 5, 6, 7).many(5), 6);
        is("two new ones", x.sweep(1), 2);
        is("many(6)", x.many(6), 0);
        is("the old ones stay", x.many(5), 6);
        is("they have none", x.match(0, 0), NONE);
        is("all are LOST", x.cost(0), 600);
        is("of an empty map", new OldMap().sweep(1), 0);
        forgotten();
        says(22, "NUMBER: there is no such map.");
        each("the map", NO_MAP, x::sweep, NUMBER);
        is("the old ones stay", x.many(5), 6);
    }

    /** A match of fewer has nothing of a match of more that was asked for ahead of it. */
    private void forgotten() {
        OldMap x = with(olds(10, 20, 30, 40, 50, 60), 1, 900, 910, 920, 930, 940, 950);
        is("all are LOST", x.cost(0), 600);
        x.sweep(0);
        is("none is there", x.cost(0), 0);
        with(x, 0, 935, 905);
        are("two for six", old -> x.match(0, old), 3, 0, NUMBER);
        is("cost(0)", x.cost(0), 10);
        is("left(0)", x.left(0), 1);
        x.sweep(1);
        with(x, 1, 906);
        are("one for two", old -> x.match(0, old), NONE, 0);
        is("cost(0)", x.cost(0), 101);
        is("left(0)", x.left(0), NONE);
    }

    private void gives() {
        says(TERMS, "A MATCH, by THE BEND of a kind, gives some old THINGS a new one each, of like KIND, no new one to two.");
        for (int kind = 0; kind < 6; kind++) {
            for (int other = 0; other < 6; other++) {
                OldMap x = still(0, 0);
                x.thing(0, kind, 1, 1);
                x.thing(1, other, 1, 1);
                is("KINDS " + kind + " and " + other, x.match(0, 0), kind == other ? 0 : NONE);
                is("cost(0)", x.cost(0), kind == other ? 0 : 100);
                is("left(0)", x.left(0), kind == other ? NONE : 0);
            }
        }
        OldMap x = with(olds(0, 1, 2), 1, 1);
        are("one for three", old -> x.match(0, old), NONE, 0, NONE);
        is("cost(0)", x.cost(0), 200);
        OldMap y = with(olds(1), 1, 3, 1, 0);
        is("three for one", y.match(0, 0), 1);
        OldMap z = with(olds(0, 0, 0, 0, 0, 0), 1, 9, 9, 9, 9, 9, 9);
        are("six for six", old -> z.match(0, old), 0, 1, 2, 3, 4, 5);
        is("cost(0)", z.cost(0), 54);
        OldMap w = still(0, 0);
        for (int k = 0; k < 6; k++) {
            w.thing(0, k, 0, 0);
            w.thing(1, 5 - k, 0, 0);
        }
        are("each has the one of its KIND", old -> w.match(0, old), 5, 4, 3, 2, 1, 0);
    }

    private void byTheKind() {
        says(TERMS, "by THE BEND of a kind");
        OldMap x = points(0, 0, 0, 0, 10, 0, 20, 0, 0, 10, 0, 30);
        x.thing(0, 0, 100, 100);
        x.thing(1, 0, 103, 107);
        x.thing(1, 0, 273, 228);
        x.thing(1, 0, 200, 300);
        are("where each kind carries it to", kind -> x.match(kind, 0), 0, 1, 2);
        are("cost", x::cost, 0, 0, 0);
        are("left", x::left, 1, 0, 0);
        OldMap y = points(0, 0, 0, 0, 1, 0, 0, 2);
        y.thing(0, 0, 3, 7);
        y.thing(1, 0, -14, 6);
        is("turned by a quarter", y.cost(1), 0);
        OldMap z = points(0, 0, 0, 0, 1, 1, 2, -3);
        z.thing(0, 0, 3, 7);
        z.thing(1, 0, 6, -21);
        is("shrunk", z.cost(2), 0);
    }

    private void rounded() {
        says(TERMS, "ROUNDED (to the nearest whole number, halves upwards, x and y)");
        int[] twelfths = {0, 5, 6, 7, 11, 12, 17, 18, 19, -5, -6, -7, -12, -17, -18, -19, 1000, -1000};
        int[] nearest = {0, 0, 1, 1, 1, 1, 1, 2, 2, 0, 0, -1, -1, -1, -1, -2, 83, -83};
        for (int k = 0; k < twelfths.length; k++) {
            OldMap x = shifts(0, 0, 0, 0, 0, 0, 0, 0, 0, 0, 0, twelfths[k]);
            x.thing(0, 0, 0, 0);
            x.thing(1, 0, nearest[k], 0);
            is("x: twelfths, " + twelfths[k], x.cost(0), 0);
            x.move(11, 1, 0, twelfths[k]);
            x.sweep(1);
            x.thing(1, 0, 0, nearest[k]);
            is("y: twelfths, " + twelfths[k], x.cost(0), 0);
        }
        OldMap y = points(0, 0, 0, 0, 2, 2, 1, 1);
        y.thing(0, 0, 3, -3);
        y.thing(1, 0, 2, -1);
        is("3/2 and -3/2, SHRUNK", y.cost(2), 0);
        is("3/2 and -3/2, TURNED", y.cost(1), 0);
    }

    private void apart() {
        says(TERMS, "It COSTS, for each old one that has one, how far apart where it is carried to");
        says(TERMS, ", and the new one are: both differences, without signs, together");
        int[][] signs = {{1, 1}, {1, -1}, {-1, 1}, {-1, -1}};
        for (int[] sign : signs) {
            OldMap x = still(0, 0);
            x.thing(0, 0, 5, 6);
            x.thing(1, 0, 5 + 30 * sign[0], 6 + 40 * sign[1]);
            is("30 and 40", x.cost(0), 70);
            x.thing(0, 0, 8, 8);
            x.thing(1, 0, 8, 8 + sign[0]);
            is("and 1", x.cost(0), 71);
        }
        OldMap y = points(0, 0, -1000, -1000, 1, 0, 1000, 1000);
        y.rule(1, 2000);
        y.thing(0, 0, 1000, -1000);
        y.thing(1, 0, -1000, 1000);
        is("millions apart", y.match(1, 0), NONE);
        is("millions apart", y.cost(1), 2000);
    }

    private void lost() {
        says(TERMS, "and for each old one that has none LOST (0 to 2000; 100 at first).");
        is("100 at first", olds(0).cost(0), 100);
        is("six", olds(0, 1, 2, 3, 4, 5).cost(0), 600);
        OldMap x = with(olds(0), 1, 100);
        is("100 apart", x.match(0, 0), 0);
        is("101 apart", with(olds(0), 1, 101).match(0, 0), NONE);
        is("101 apart", with(olds(0), 1, 101).cost(0), 100);
        x.rule(1, 99);
        is("100 apart, LOST 99", x.match(0, 0), NONE);
        OldMap y = with(olds(0, 0, 0, 0, 0, 0), 1, 1);
        y.rule(1, 0);
        is("LOST 0, 1 apart", y.match(0, 0), NONE);
        is("LOST 0, 1 apart", y.cost(0), 0);
        y.rule(1, 2000);
        is("LOST 2000, 1 apart", y.match(0, 0), 0);
        is("LOST 2000", y.cost(0), 10001);
        y.sweep(1);
        is("the greatest cost", y.cost(0), 12000);
        OldMap z = still(0, 0);
        z.rule(1, 2000);
        z.thing(0, 0, 0, 0);
        z.thing(1, 0, 1000, -1000);
        is("2000 apart", z.match(0, 0), 0);
        z.move(0, 1, -1, 0);
        is("2001 apart", z.match(0, 0), NONE);
    }

    private void least() {
        says(TERMS, "THE MATCH costs least");
        OldMap x = with(olds(0, 10), 1, 9, 30);
        are("the nearest one is left to the other", old -> x.match(0, old), 0, 1);
        is("cost(0)", x.cost(0), 29);
        OldMap y = with(olds(0, 10), 1, -60, 9);
        are("each the nearer one", old -> y.match(0, old), 0, 1);
        OldMap z = with(olds(0, 90), 1, 90, 185);
        are("90 and 95, or 0 and LOST", old -> z.match(0, old), NONE, 0);
        is("cost(0)", z.cost(0), 100);
        z.rule(1, 186);
        are("LOST is dearer", old -> z.match(0, old), 0, 1);
        is("cost(0)", z.cost(0), 185);
        OldMap w = with(olds(10, 20, 30, 40, 50, 60), 1, 21, 31, 41, 51, 61, 11);
        are("six in a ring", old -> w.match(0, old), 5, 0, 1, 2, 3, 4);
        is("cost(0)", w.cost(0), 6);
    }

    private void ties() {
        says(TERMS, "; of several it is the one in which the first old THING for which they are unlike has the lesser new one");
        OldMap x = with(olds(0, 10), 1, 12, 15);
        are("12 and 5, or 15 and 2", old -> x.match(0, old), 0, 1);
        OldMap y = with(olds(0, 10), 1, 15, 12);
        are("15 and 2, or 12 and 5", old -> y.match(0, old), 0, 1);
        OldMap z = with(olds(5, 5, 5), 1, 5, 5, 5, 5);
        are("all alike", old -> z.match(0, old), 0, 1, 2);
        is("left(0)", z.left(0), 3);
        OldMap w = with(olds(500, 0, 10), 1, 15, 12, 500);
        are("unlike from the second on", old -> w.match(0, old), 2, 0, 1);
        is("as near on both sides", with(olds(5), 1, 8, 2).match(0, 0), 0);
        OldMap v = with(olds(0, 10, 20), 1, 30, 25, 20);
        are("three in any order", old -> v.match(0, old), 0, 1, 2);
        says(TERMS, "(none stands behind all).");
        OldMap n = with(olds(7, 7), 1, 9);
        are("one for two", old -> n.match(0, old), 0, NONE);
        OldMap m = with(olds(0), 1, 100, 100);
        is("as dear as LOST", m.match(0, 0), 0);
        OldMap o = with(olds(3), 1, 4, 3);
        o.rule(1, 0);
        is("LOST 0, not apart: the last new one before none", o.match(0, 0), 1);
        OldMap p = with(olds(0, 50), 1, 100);
        p.rule(1, 50);
        are("the first might only at a greater cost", old -> p.match(0, old), NONE, 0);
        OldMap q = with(olds(0, 60), 1, 60, 160);
        are("60 and 100, or LOST and 0", old -> q.match(0, old), NONE, 0);
        q.rule(1, 160);
        are("60 and 100, or LOST (160) and 0", old -> q.match(0, old), 0, 1);
    }

    private void match() {
        says(23, "The new THING that THE MATCH gives an old one.");
        OldMap x = with(olds(0, 10, 500), 1, 9, 1);
        are("match", old -> x.match(0, old), 1, 0, NONE, NUMBER);
        are("of a full table, the last", kind -> full().match(kind, 5), 5, 5, 5);
        says(23, "NUMBER: there is no such kind");
        each("the kind", NO_KIND, v -> x.match(v, 0), NUMBER);
        says(23, ", or old THING");
        each("of three, the old one", notBelow(3), v -> x.match(0, v), NUMBER);
        each("of six, the old one", notBelow(6), v -> full().match(1, v), NUMBER);
        is("of none", still(0, 0).match(0, 0), NUMBER);
        is("of none, when there are new ones", with(still(0, 0), 1, 1, 2).match(0, 1), NUMBER);
        says(23, "FEW");
        OldMap y = with(shifts(0, 0), 0, 1);
        are("like OLD places", kind -> y.match(kind, 0), NONE, FEW, FEW);
        y.put(0, false);
        y.sure(1, false);
        are("none COUNTS", kind -> y.match(kind, 0), FEW, FEW, FEW);
        says(23, "NONE: it gives it none.");
        is("too far", x.match(0, 2), NONE);
        is("no new ones", olds(1).match(2, 0), NONE);
    }

    private void cost() {
        says(24, "What THE MATCH costs.");
        is("no THINGS", still(0, 0).cost(0), 0);
        is("new ones alone", with(still(0, 0), 1, 5, 6).cost(0), 0);
        is("two that are given one, and one that isn't", with(olds(0, 10, 500), 1, 9, 1).cost(0), 102);
        says(24, "NUMBER: there is no such kind");
        each("the kind", NO_KIND, olds(1)::cost, NUMBER);
        says(24, "FEW.");
        are("none COUNTS", new OldMap()::cost, FEW, FEW, FEW);
        are("one COUNTS", shifts(5)::cost, 0, FEW, FEW);
        are("like x", still(3, 4, 3, 5)::cost, 0, 0, FEW);
    }

    private void left() {
        says(25, "The least new THING that THE MATCH gives to none.");
        is("no old ones", with(still(0, 0), 1, 5, 6).left(0), 0);
        is("the first is given", with(olds(5), 1, 5, 6).left(0), 1);
        is("the second is given", with(olds(6), 1, 5, 6).left(0), 0);
        is("all but the last are given", with(olds(1, 2, 3, 4, 5), 1, 1, 2, 3, 4, 5, 6).left(0), 5);
        is("the first two are given", with(olds(8, 9), 1, 8, 9, 7, 9).left(0), 2);
        is("100 apart: it is given", with(olds(0), 1, 100).left(0), NONE);
        is("101 apart: it isn't", with(olds(0), 1, 101).left(0), 0);
        says(25, "NUMBER: there is no such kind");
        each("the kind", NO_KIND, with(olds(1), 1, 1, 2)::left, NUMBER);
        says(25, "FEW");
        are("none COUNTS", with(new OldMap(), 1, 4)::left, FEW, FEW, FEW);
        are("one COUNTS", with(shifts(5), 1, 4)::left, 0, FEW, FEW);
        says(25, "NONE: there is none such.");
        is("no new ones", olds(1, 2).left(0), NONE);
        is("no THINGS", still(0, 0).left(0), NONE);
        is("all six are given", with(olds(1, 2, 3, 4, 5, 6), 1, 1, 2, 3, 4, 5, 6).left(0), NONE);
    }

    private void many() {
        says(26, "How many: what = 0 POINTS, 1 that COUNT, 2 TRIANGLES, 3 of these TURNED OVER, 4 FLAT, 5 old, 6 new THINGS, 7 pairs of TRIANGLES that MEET on the old map, 8 on the new one");
        OldMap x = new OldMap();
        are("none", x::many, 0, 0, 0, 0, 0, 0, 0, 0, 0);
        OldMap y = full();
        // On the old map the POINTS bend one way, so that neighbours MEET; on the new one they wind.
        are("as many as may be", y::many, 12, 12, 10, 5, 0, 6, 6, 9, 0);
        OldMap z = still(0, 0, 4, 0, 0, 4);
        for (int t = 0; t < 10; t++) {
            z.triangle(0, 1, 2);
        }
        z.put(0, false);
        z.thing(1, 0, 0, 0);
        are("all pairs MEET", z::many, 3, 2, 10, 0, 0, 0, 1, 45, 45);
        z.move(2, 1, 0, -4);
        are("all TURNED OVER", z::many, 3, 2, 10, 10, 0, 0, 1, 45, 45);
        says(26, "(FLAT ones not)");
        z.move(2, 1, 2, 0);
        are("all FLAT on the new map", z::many, 3, 2, 10, 0, 10, 0, 1, 0, 0);
        z.move(2, 1, 0, 4);
        z.move(2, 0, 2, 0);
        are("all FLAT on the old map", z::many, 3, 2, 10, 0, 10, 0, 1, 0, 0);
        OldMap w = still(0, 0, 9, 0, 0, 9, 1, 1, 3, 1);
        w.triangle(0, 1, 2);
        w.triangle(0, 1, 3);
        w.triangle(0, 1, 4);
        are("all three pairs", w::many, 5, 5, 3, 0, 0, 0, 0, 3, 3);
        w.move(3, 1, 4, 0);
        are("without the second one", w::many, 5, 5, 3, 0, 1, 0, 0, 1, 1);
        w.move(3, 1, 1, 1);
        w.move(4, 0, 4, 0);
        are("without the third one", w::many, 5, 5, 3, 0, 1, 0, 0, 1, 1);
        says(26, "NUMBER: another what.");
        each("what", notBelow(9), y::many, NUMBER);
    }
}
