/** Promises 27 and 28. */
final class KeptBoundaries extends Boundaries {
    KeptBoundaries(Due due, Sentences sentences) {
        super(due, sentences);
    }

    @Override
    void run() {
        keep();
        each();
        empty();
        latest();
        back();
        none();
    }

    /** A change to what is kept, by a number. */
    interface Change {
        void of(OldMap x, int number);
    }

    private void keep() {
        says(27, "POINTS, TRIANGLES and THINGS are kept: 1.");
        OldMap x = full();
        is("keep()", x.keep(), 1);
        holds("nothing has changed", told(x).equals(told(full())));
        OldMap y = full();
        y.keep();
        changeAll(y);
        is("back()", y.back(), 1);
        holds("all is as it was", told(y).equals(told(full())));
    }

    private static void changeAll(OldMap x) {
        for (int k = 0; k < 12; k++) {
            x.move(k, 0, 3 * k - 40, k % 3);
            x.move(k, 1, k % 5, 800 - k * k);
            x.sure(k, k % 2 == 0);
            x.put(k, k % 3 == 0);
        }
        x.sweep(0);
        x.sweep(1);
        for (int k = 0; k < 5; k++) {
            x.thing(0, 5, -k, 700);
            x.thing(1, 4, 900, k);
        }
    }

    /** Each single thing that can be changed comes back, and what is kept doesn't change with it. */
    private void each() {
        comesBack("a POINT's OLD place", 12, (x, k) -> x.move(k, 0, -300, 300));
        comesBack("a POINT's NEW place", 12, (x, k) -> x.move(k, 1, -300, 300));
        comesBack("SURE", 12, (x, k) -> x.sure(k, false));
        comesBack("IN", 12, (x, k) -> x.put(k, false));
        comesBack("the THINGS of a map", 2, OldMap::sweep);
        comesBack("those that lie", 12, (x, k) -> {
            x.move(k, 1, 900, -900);
            x.drop(0);
        });
        triangles();
        things();
    }

    private void comesBack(String what, int numbers, Change change) {
        String due = told(full());
        for (int k = 0; k < numbers; k++) {
            OldMap x = full();
            x.keep();
            change.of(x, k);
            holds("changed: " + what + " " + k, !told(x).equals(due));
            OldMap y = full();
            y.keep();
            change.of(y, k);
            y.back();
            change.of(y, k);
            is("back() twice", y.back(), 1);
            holds("came back: " + what + " " + k, told(y).equals(due));
        }
    }

    /** After back the next TRIANGLES stand where others stood that are forgotten. */
    private void triangles() {
        OldMap x = still(0, 0, 4, 0, 0, 4, 4, 4);
        x.keep();
        for (int t = 0; t < 10; t++) {
            x.triangle(0, 1, 3);
        }
        x.back();
        is("none is left", x.many(2), 0);
        for (int t = 0; t < 10; t++) {
            is("the next", x.triangle(1, 2, t < 5 ? 3 : 0), t);
            x.keep();
            x.triangle(0, 1, 3);
            x.back();
        }
        is("all ten are kept", x.many(2), 10);
        for (int t = 0; t < 9; t++) {
            is("TRIANGLE " + t + " and the last", x.meet(t, 9, 0), t < 5 ? 0 : 1);
        }
        is("the first", x.within(0, 4, 4), 0);
        is("the sixth", x.within(0, 0, 0), 5);
    }

    private void things() {
        for (int map = 0; map < 2; map++) {
            OldMap x = still(0, 0);
            for (int k = 0; k < 6; k++) {
                x.thing(map, k, 10 * k, -7 * k);
            }
            x.keep();
            x.sweep(map);
            for (int k = 0; k < 6; k++) {
                x.thing(map, 5 - k, k, k);
                x.thing(1 - map, k, 10 * k + 1, -7 * k - 2);
            }
            x.back();
            is("those of the other map are gone", x.many(6 - map), 0);
            for (int k = 0; k < 6; k++) {
                x.thing(1 - map, 5 - k, 10 * (5 - k) + 1, -7 * (5 - k) - 2);
            }
            are("each has its KIND", old -> x.match(0, old), 5, 4, 3, 2, 1, 0);
            is("each has its place", x.cost(0), 18);
        }
    }

    private void empty() {
        says(27, "are kept");
        OldMap x = new OldMap();
        is("keep() of nothing", x.keep(), 1);
        x.point(1, 2, 3, 4);
        x.thing(0, 0, 0, 0);
        is("back() to nothing", x.back(), 1);
        are("nothing", x::many, 0, 0, 0, 0, 0, 0, 0, 0, 0);
        is("the next is the first", x.point(5, 6, 7, 8), 0);
        is("it is SURE and IN", x.many(1), 1);
        OldMap y = still(0, 0, 5, 5);
        y.keep();
        y.rule(0, 77);
        y.rule(1, 88);
        y.back();
        is("BEYOND is no POINT, TRIANGLE or THING", y.rule(0, 10), 77);
        is("LOST is none, too", y.rule(1, 100), 88);
        OldMap z = still(0, 0);
        z.put(0, false);
        z.sure(0, false);
        z.keep();
        z.point(1, 1, 1, 1);
        z.back();
        is("room for the next", z.point(2, 2, 2, 2), 1);
        are("OUT and DOUBTFUL as it was kept", what -> z.of(0, what), 0, 0, 0, 0, 0, 0);
        are("the next is SURE and IN", what -> z.of(1, what), 2, 2, 2, 2, 1, 1);
    }

    private void latest() {
        says(28, "They become what was kept latest (which stays): 1.");
        OldMap x = still(1, 1);
        x.keep();
        x.point(2, 2, 2, 2);
        x.keep();
        x.point(3, 3, 3, 3);
        is("back()", x.back(), 1);
        is("the latest", x.many(0), 2);
        is("back() again", x.back(), 1);
        is("the latest stays", x.many(0), 2);
        x.move(0, 0, 9, 9);
        is("what was kept hasn't changed", x.back() + x.of(0, 0), 2);
        x.put(0, false);
        x.keep();
        x.put(0, true);
        x.back();
        is("kept after back()", x.of(0, 5), 0);
    }

    private void back() {
        says(28, "They become what was kept latest");
        OldMap x = full();
        OldMap y = new OldMap();
        y.keep();
        changeAll(x);
        x.keep();
        String due = told(x);
        OldMap z = full();
        changeAll(z);
        z.keep();
        for (int k = 0; k < 12; k++) {
            z.sure(k, true);
            z.put(k, true);
            z.move(k, 0, k, k * k);
        }
        z.back();
        holds("all that was changed ahead of keep()", told(z).equals(due));
        is("of another object nothing", y.back() + y.many(0), 1);
    }

    private void none() {
        says(28, "NONE: nothing is kept.");
        OldMap x = full();
        is("back()", x.back(), NONE);
        is("back() again", x.back(), NONE);
        holds("nothing has changed", told(x).equals(told(full())));
        is("of a new object", new OldMap().back(), NONE);
    }
}
