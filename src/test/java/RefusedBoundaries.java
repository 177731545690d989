import java.util.function.Supplier;

/** What the terms say of calls that are refused. */
final class RefusedBoundaries extends Boundaries {
    RefusedBoundaries(Due due, Sentences sentences) {
        super(due, sentences);
    }

    /** One call of any kind. */
    interface Asked {
        long of(OldMap x);
    }

    @Override
    void run() {
        ofFull();
        ofEmpty();
        ofFew();
        ofLiars();
        ofFlat();
        firstNamed();
    }

    /** A call on an object made anew answers this and changes nothing, kept or not. */
    private void refused(String what, Supplier<OldMap> made, Asked call, long want) {
        says(TERMS, "A call that is refused (answers below 0, where not told otherwise) changes nothing.");
        OldMap x = made.get();
        is(what, call.of(x), want);
        holds(what + ": nothing has changed", told(x).equals(told(made.get())));
        OldMap y = made.get();
        call.of(y);
        OldMap z = made.get();
        is(what + ": back()", y.back(), z.back());
        holds(what + ": what is kept hasn't changed", told(y).equals(told(z)));
    }

    /** As many as may be; something else is kept, and the rules are no longer the first ones. */
    private static OldMap fullAndKept() {
        OldMap x = full();
        x.keep();
        x.sure(2, false);
        x.put(3, false);
        x.move(4, 1, -50, 60);
        x.rule(0, 12);
        x.rule(1, 13);
        return x;
    }

    private void ofFull() {
        Supplier<OldMap> made = RefusedBoundaries::fullAndKept;
        refused("point", made, x -> x.point(1, 2, 3, 4), FULL);
        refused("point beyond", made, x -> x.point(1, 2, 3, 1001), NUMBER);
        refused("move of none", made, x -> x.move(12, 0, 5, 5), NUMBER);
        refused("move on no map", made, x -> x.move(0, 2, 5, 5), NUMBER);
        refused("move beyond in x", made, x -> x.move(0, 0, 1001, 5), NUMBER);
        refused("move beyond in y", made, x -> x.move(0, 1, 5, -1001), NUMBER);
        refused("sure of none", made, x -> x.sure(12, false), NUMBER);
        refused("sure of none", made, x -> x.sure(-1, true), NUMBER);
        refused("sure of one that a shift would take for 2", made, x -> x.sure(34, true), NUMBER);
        refused("put of none", made, x -> x.put(12, false), NUMBER);
        refused("put of one that a shift would take for 3", made, x -> x.put(35, true), NUMBER);
        refused("of", made, x -> x.of(0, 6), -2000);
        refused("bend", made, x -> x.bend(1, 8), NOTHING);
        refused("carry", made, x -> x.carry(1, 0, 1001, 0), NOTHING);
        refused("off", made, x -> x.off(1, 12, 0), NOTHING);
        refused("miss", made, x -> x.miss(1, 2), NOTHING);
        refused("beyond", made, x -> x.beyond(3), NUMBER);
        refused("lying", made, x -> x.lying(-1), NUMBER);
        refused("drop", made, x -> x.drop(3), NUMBER);
        refused("rule of none", made, x -> x.rule(2, 5), NUMBER);
        refused("rule, too large", made, x -> x.rule(0, 1001), NUMBER);
        refused("rule, too large", made, x -> x.rule(1, 2001), NUMBER);
        refused("rule, below 0", made, x -> x.rule(0, -1), NUMBER);
        refused("rule, below 0", made, x -> x.rule(1, -1), NUMBER);
        refused("triangle", made, x -> x.triangle(0, 1, 2), FULL);
        refused("triangle of two", made, x -> x.triangle(0, 1, 1), NUMBER);
        refused("state", made, x -> x.state(10), NUMBER);
        refused("within", made, x -> x.within(2, 0, 0), NUMBER);
        refused("within none", made, x -> x.within(0, 1000, -1000), NONE);
        refused("carried", made, x -> x.carried(10, 0, 0, 0, 0), NOTHING);
        refused("meet", made, x -> x.meet(0, 10, 0), NUMBER);
        refused("area", made, x -> x.area(0, 2), NUMBER);
        refused("old thing", made, x -> x.thing(0, 0, 1, 1), FULL);
        refused("new thing", made, x -> x.thing(1, 0, 1, 1), FULL);
        refused("thing of no kind", made, x -> x.thing(0, 6, 1, 1), NUMBER);
        refused("sweep", made, x -> x.sweep(2), NUMBER);
        refused("sweep", made, x -> x.sweep(-1), NUMBER);
        refused("match", made, x -> x.match(0, 6), NUMBER);
        refused("cost", made, x -> x.cost(3), NUMBER);
        refused("left", made, x -> x.left(3), NUMBER);
        refused("many", made, x -> x.many(9), NUMBER);
    }

    private void ofEmpty() {
        Supplier<OldMap> made = OldMap::new;
        refused("point beyond", made, x -> x.point(-1001, 2, 3, 4), NUMBER);
        refused("move", made, x -> x.move(0, 0, 5, 5), NUMBER);
        refused("sure", made, x -> x.sure(0, false), NUMBER);
        refused("sure", made, x -> x.sure(0, true), NUMBER);
        refused("put", made, x -> x.put(0, false), NUMBER);
        refused("put", made, x -> x.put(0, true), NUMBER);
        refused("of", made, x -> x.of(0, 0), -2000);
        refused("off", made, x -> x.off(0, 0, 0), NOTHING);
        refused("drop", made, x -> x.drop(0), FEW);
        refused("triangle", made, x -> x.triangle(0, 1, 2), NUMBER);
        refused("thing beyond", made, x -> x.thing(1, 0, 0, 1001), NUMBER);
        refused("match", made, x -> x.match(0, 0), NUMBER);
        refused("left", made, x -> x.left(0), FEW);
        refused("within", made, x -> x.within(0, 0, 0), NONE);
        refused("back", made, x -> x.back(), NONE);
        refusedOnceThenCome();
    }

    /** A POINT that comes after one was asked for that wasn't there is SURE and IN all the same. */
    private void refusedOnceThenCome() {
        OldMap x = new OldMap();
        x.sure(0, false);
        x.put(0, false);
        x.move(0, 0, 9, 9);
        x.point(1001, 7, 7, 7);
        is("the first", x.point(1, 2, 3, 4), 0);
        are("of(0, .)", what -> x.of(0, what), 1, 2, 3, 4, 1, 1);
    }

    /** Of three POINTS none COUNTS; one old THING, one new one. */
    private static OldMap few() {
        OldMap x = still(0, 0, 4, 0, 0, 4);
        x.keep();
        x.put(0, false);
        x.sure(1, false);
        x.sure(2, false);
        x.thing(0, 0, 1, 1);
        x.thing(1, 0, 1, 1);
        return x;
    }

    private void ofFew() {
        Supplier<OldMap> made = RefusedBoundaries::few;
        for (int k = 0; k < 3; k++) {
            int kind = k;
            refused("bend", made, x -> x.bend(kind, 0), NOTHING);
            refused("carry", made, x -> x.carry(kind, 0, 0, 0), NOTHING);
            refused("off", made, x -> x.off(kind, 0, 0), NOTHING);
            refused("miss", made, x -> x.miss(kind, 0), NOTHING);
            refused("beyond", made, x -> x.beyond(kind), FEW);
            refused("lying", made, x -> x.lying(kind), FEW);
            refused("drop", made, x -> x.drop(kind), FEW);
            refused("match", made, x -> x.match(kind, 0), FEW);
            refused("cost", made, x -> x.cost(kind), FEW);
            refused("left", made, x -> x.left(kind), FEW);
        }
    }

    private static OldMap liars() {
        OldMap x = shifts(0, 100, 200, 300, 400);
        x.point(50, 60, 70, 80);
        x.keep();
        x.point(1, 1, -900, 900);
        return x;
    }

    private void ofLiars() {
        Supplier<OldMap> made = RefusedBoundaries::liars;
        for (int k = 0; k < 3; k++) {
            int kind = k;
            refused("lying", made, x -> x.lying(kind), NONE);
            refused("drop", made, x -> x.drop(kind), NONE);
        }
    }

    /** TRIANGLE 1 is FLAT, 0 isn't. */
    private static OldMap flat() {
        OldMap x = still(0, 0, 4, 0, 0, 4, 4, 4);
        x.triangle(0, 1, 2);
        x.keep();
        x.triangle(1, 2, 3);
        x.move(3, 1, 2, 2);
        return x;
    }

    private void ofFlat() {
        Supplier<OldMap> made = RefusedBoundaries::flat;
        refused("triangle", made, x -> x.triangle(1, 2, 3), FLAT);
        refused("carried", made, x -> x.carried(1, 0, 0, 0, 0), NOTHING);
        refused("meet", made, x -> x.meet(0, 1, 0), FLAT);
        refused("meet", made, x -> x.meet(1, 0, 1), FLAT);
        refused("within", made, x -> x.within(0, 4, 4), NONE);
    }

    private void firstNamed() {
        says(TERMS, "Of several refusals that a call names the first one named is answered.");
        is("point: NUMBER, FULL", full().point(1001, 0, 0, 0), NUMBER);
        is("point: NUMBER, FULL", full().point(0, 0, 0, -1001), NUMBER);
        is("beyond: NUMBER, FEW", new OldMap().beyond(3), NUMBER);
        is("lying: NUMBER, FEW", new OldMap().lying(-1), NUMBER);
        is("lying: NUMBER, NONE", liars().lying(3), NUMBER);
        is("lying: FEW, NONE", shifts(0, 100, 200, 300, 400).lying(1), FEW);
        is("drop: NUMBER, FEW", new OldMap().drop(3), NUMBER);
        is("drop: NUMBER, NONE", liars().drop(3), NUMBER);
        is("drop: FEW, NONE", shifts(0, 100, 200, 300, 400).drop(2), FEW);
        OldMap x = full();
        x.move(2, 0, 2, 4 - 2);
        x.move(0, 0, 0, 0);
        x.move(1, 0, 1, 1);
        is("triangle: FLAT, FULL", x.triangle(0, 1, 2), FLAT);
        is("triangle: NUMBER (no POINT), FULL", x.triangle(0, 1, 12), NUMBER);
        is("triangle: NUMBER (the same), FLAT, FULL", x.triangle(0, 1, 0), NUMBER);
        is("triangle: NUMBER (the same), FLAT", flat().triangle(3, 3, 0), NUMBER);
        is("triangle: NUMBER (no POINT), FLAT", flat().triangle(3, 4, 0), NUMBER);
        is("within: NUMBER (no map), NONE", new OldMap().within(2, 0, 0), NUMBER);
        is("within: NUMBER (beyond), NONE", new OldMap().within(0, 0, 1001), NUMBER);
        is("meet: NUMBER (both are one), FLAT", flat().meet(1, 1, 0), NUMBER);
        is("meet: NUMBER (no such TRIANGLE), FLAT", flat().meet(1, 2, 0), NUMBER);
        is("meet: NUMBER (no such TRIANGLE), FLAT", flat().meet(2, 1, 0), NUMBER);
        is("meet: NUMBER (no map), FLAT", flat().meet(0, 1, 2), NUMBER);
        is("thing: NUMBER (no map), FULL", full().thing(2, 0, 0, 0), NUMBER);
        is("thing: NUMBER (no kind), FULL", full().thing(0, 6, 0, 0), NUMBER);
        is("thing: NUMBER (beyond), FULL", full().thing(1, 0, -1001, 0), NUMBER);
        is("match: NUMBER (no kind), FEW", few().match(3, 0), NUMBER);
        is("match: NUMBER (no old THING), FEW", few().match(0, 1), NUMBER);
        OldMap y = few();
        y.sweep(1);
        is("match: FEW, NONE", y.match(0, 0), FEW);
        is("left: FEW, NONE", y.left(0), FEW);
        is("left: NUMBER, FEW", y.left(3), NUMBER);
        is("left: NUMBER, NONE", still(0, 0).left(3), NUMBER);
        is("cost: NUMBER, FEW", y.cost(3), NUMBER);
    }
}
