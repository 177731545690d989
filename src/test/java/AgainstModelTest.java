import java.util.Random;

/** Long runs of calls, right and wrong, on OldMap and on the model: all answers are the same. */
public final class AgainstModelTest {
    private static final int RUNS = 1500;
    private static final int CALLS = 160;
    private static final int[] WRONG = {-1, -2, 12, 13, 1001, -1001, 2001, 4096,
        Integer.MAX_VALUE, Integer.MIN_VALUE};

    private final Random random;
    private final OldMap map = new OldMap();
    private final OldMapModel model = new OldMapModel();
    private final Due due;
    private final StringBuilder told = new StringBuilder();
    private final int reach;
    private final int style;
    private final int liars;
    private int turnP;
    private int turnQ;

    private AgainstModelTest(int seed, Due due) {
        this.due = due;
        random = new Random(seed);
        style = seed % 5;
        reach = new int[] {2, 9, 1000, 1000, 60}[style];
        liars = random.nextInt(5);
        turnP = random.nextInt(5) - 2;
        turnQ = random.nextInt(5) - 2;
    }

    public static void main(String[] args) {
        Due due = new Due("AgainstModelTest");
        for (int seed = 0; seed < RUNS && due.wrong() == 0; seed++) {
            due.part("run " + seed);
            new AgainstModelTest(seed, due).run();
        }
        due.end();
    }

    private void run() {
        int first = random.nextInt(13);
        for (int i = 0; i < first; i++) {
            newPoint();
        }
        int second = random.nextInt(25);
        for (int i = 0; i < second; i++) {
            newTriangle();
            newThing();
        }
        for (int i = 0; i < CALLS && due.wrong() == 0; i++) {
            one();
        }
        if (due.wrong() != 0) {
            System.out.println(told);
        }
    }

    private boolean rarely() {
        return random.nextInt(25) == 0;
    }

    private int upTo(int most) {
        return rarely() ? WRONG[random.nextInt(WRONG.length)] : random.nextInt(most + 1);
    }

    /** Mostly one of so many, now and then the one behind the last, or a number far away. */
    private int oneOf(int count) {
        return random.nextInt(12) == 0 || count == 0 ? upTo(count) : random.nextInt(count);
    }

    private int somePoint() {
        return oneOf(model.many(0));
    }

    private int someTriangle() {
        return oneOf(model.many(2));
    }

    private int coordinate() {
        if (random.nextInt(60) == 0) {
            return WRONG[random.nextInt(WRONG.length)];
        }
        if (style == 3) {
            return random.nextBoolean() ? 1000 - random.nextInt(2) : random.nextInt(2) - 1000;
        }
        return random.nextInt(2 * reach + 1) - reach;
    }

    private int near(int v) {
        int n = v + random.nextInt(7) - 3;
        return Math.max(-1000, Math.min(1000, n));
    }

    private void same(String call, long got, long want) {
        told.append(call).append(" = ").append(want).append('\n');
        due.is(call, got, want);
    }

    private void newPoint() {
        int x = coordinate();
        int y = coordinate();
        int newX = coordinate();
        int newY = coordinate();
        if (style == 4 && random.nextInt(12) >= liars) {
            newX = near(turnP * x - turnQ * y + 40);
            newY = near(turnQ * x + turnP * y - 70);
        }
        same("point(" + x + ", " + y + ", " + newX + ", " + newY + ")",
                map.point(x, y, newX, newY), model.point(x, y, newX, newY));
    }

    private void newThing() {
        int m = upTo(1);
        int kind = random.nextInt(3) == 0 ? upTo(5) : upTo(1);
        int x = coordinate();
        int y = coordinate();
        same("thing(" + m + ", " + kind + ", " + x + ", " + y + ")",
                map.thing(m, kind, x, y), model.thing(m, kind, x, y));
    }

    private void newTriangle() {
        int p = somePoint();
        int q = somePoint();
        int r = somePoint();
        same("triangle(" + p + ", " + q + ", " + r + ")",
                map.triangle(p, q, r), model.triangle(p, q, r));
    }

    private void one() {
        int which = random.nextInt(100);
        if (which < 26) {
            pointCalls(random.nextInt(10));
        } else if (which < 56) {
            bendCalls(random.nextInt(10));
        } else if (which < 78) {
            triangleCalls(random.nextInt(12));
        } else {
            thingCalls(random.nextInt(14));
        }
    }

    private void pointCalls(int which) {
        int k = somePoint();
        boolean on = random.nextInt(4) != 0;
        if (which < 3) {
            newPoint();
        } else if (which < 5) {
            int m = upTo(1);
            int x = coordinate();
            int y = coordinate();
            same("move(" + k + ", " + m + ", " + x + ", " + y + ")",
                    map.move(k, m, x, y), model.move(k, m, x, y));
        } else if (which < 7) {
            same("sure(" + k + ", " + on + ")", map.sure(k, on), model.sure(k, on));
        } else if (which < 9) {
            same("put(" + k + ", " + on + ")", map.put(k, on), model.put(k, on));
        } else {
            int what = upTo(5);
            same("of(" + k + ", " + what + ")", map.of(k, what), model.of(k, what));
        }
    }

    private void bendCalls(int which) {
        int kind = upTo(2);
        int k = somePoint();
        int what = upTo(3);
        if (which < 2) {
            int w = upTo(7);
            same("bend(" + kind + ", " + w + ")", map.bend(kind, w), model.bend(kind, w));
        } else if (which < 4) {
            int x = coordinate();
            int y = coordinate();
            same("carry(" + kind + ", " + x + ", " + y + ", " + what + ")",
                    map.carry(kind, x, y, what), model.carry(kind, x, y, what));
        } else if (which == 4) {
            same("off(" + kind + ", " + k + ", " + what + ")",
                    map.off(kind, k, what), model.off(kind, k, what));
        } else if (which == 5) {
            same("miss(" + kind + ", " + what + ")", map.miss(kind, what), model.miss(kind, what));
        } else if (which == 6) {
            same("beyond(" + kind + ")", map.beyond(kind), model.beyond(kind));
        } else if (which == 7) {
            same("lying(" + kind + ")", map.lying(kind), model.lying(kind));
        } else if (which == 8 && random.nextInt(6) == 0) {
            same("drop(" + kind + ")", map.drop(kind), model.drop(kind));
        } else {
            int w = upTo(1);
            int v = random.nextInt(3) == 0 ? upTo(w == 1 ? 2000 : 1000) : upTo(3 * reach / 2 + 1);
            same("rule(" + w + ", " + v + ")", map.rule(w, v), model.rule(w, v));
        }
    }

    private void triangleCalls(int which) {
        int t = someTriangle();
        int m = upTo(1);
        int x = coordinate();
        int y = coordinate();
        if (which < 4) {
            newTriangle();
        } else if (which == 4) {
            same("state(" + t + ")", map.state(t), model.state(t));
        } else if (which < 7) {
            same("within(" + m + ", " + x + ", " + y + ")", map.within(m, x, y), model.within(m, x, y));
        } else if (which < 9) {
            int what = upTo(3);
            same("carried(" + t + ", " + m + ", " + x + ", " + y + ", " + what + ")",
                    map.carried(t, m, x, y, what), model.carried(t, m, x, y, what));
        } else if (which < 11) {
            int u = someTriangle();
            same("meet(" + t + ", " + u + ", " + m + ")", map.meet(t, u, m), model.meet(t, u, m));
        } else {
            same("area(" + t + ", " + m + ")", map.area(t, m), model.area(t, m));
        }
    }

    private void thingCalls(int which) {
        int kind = upTo(2);
        if (which < 5) {
            newThing();
        } else if (which == 5 && random.nextInt(8) == 0) {
            int m = upTo(1);
            same("sweep(" + m + ")", map.sweep(m), model.sweep(m));
        } else if (which < 8) {
            int old = oneOf(model.many(5));
            same("match(" + kind + ", " + old + ")", map.match(kind, old), model.match(kind, old));
        } else if (which == 8) {
            same("cost(" + kind + ")", map.cost(kind), model.cost(kind));
        } else if (which == 9) {
            same("left(" + kind + ")", map.left(kind), model.left(kind));
        } else if (which < 12) {
            int what = upTo(8);
            same("many(" + what + ")", map.many(what), model.many(what));
        } else if (which == 12 && random.nextInt(3) == 0) {
            same("keep()", map.keep(), model.keep());
        } else if (which == 13 && random.nextInt(3) == 0) {
            same("back()", map.back(), model.back());
        }
    }
}
