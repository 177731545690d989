/** What the tests of the document's boundary cases share. */
abstract class Boundaries {
    static final int TERMS = Sentences.TERMS;
    static final int NUMBER = -1;
    static final int FULL = -2;
    static final int FEW = -3;
    static final int FLAT = -4;
    static final int NONE = -5;
    static final long NOTHING = -4000000000000000000L;
    static final int LOW = Integer.MIN_VALUE;
    static final int HIGH = Integer.MAX_VALUE;
    /** Bends are of the kinds 0 to 2, maps 0 and 1, numbers of a place -1000 to 1000. */
    static final int[] NO_KIND = {-1, 3, LOW, HIGH};
    static final int[] NO_MAP = {-1, 2, LOW, HIGH};
    static final int[] TOO_FAR = {-1001, 1001, LOW, HIGH};
    static final int[] EDGE = {-1000, 1000};

    private final Due due;
    private final Sentences sentences;

    Boundaries(Due due, Sentences sentences) {
        this.due = due;
        this.sentences = sentences;
    }

    /** One answer of a call of which all arguments but one are settled. */
    interface Call {
        long with(int argument);
    }

    abstract void run();

    final void says(int promise, String words) {
        sentences.of(promise, words);
    }

    final void is(String what, long got, long want) {
        due.is(what, got, want);
    }

    final void holds(String what, boolean is) {
        due.holds(what, is);
    }

    /** The call with 0, 1, 2 .. answers these. */
    final void are(String what, Call call, long... want) {
        for (int k = 0; k < want.length; k++) {
            is(what + ", " + k, call.with(k), want[k]);
        }
    }

    /** The call answers the same with each of these arguments. */
    final void each(String what, int[] arguments, Call call, long want) {
        for (int v : arguments) {
            is(what + " " + v, call.with(v), want);
        }
    }

    /** The numbers that are none of 0 to count - 1: those beside them, and some far away. */
    static int[] notBelow(int count) {
        return new int[] {-1, count, count + 1, -count - 1, count + 32, LOW, LOW + 1, HIGH};
    }

    /** POINTS by four numbers each: x, y, X, Y. */
    static OldMap points(int... numbers) {
        OldMap x = new OldMap();
        for (int k = 0; k + 3 < numbers.length; k += 4) {
            x.point(numbers[k], numbers[k + 1], numbers[k + 2], numbers[k + 3]);
        }
        return x;
    }

    /** POINTS with one OLD place, each of which alone would be shifted so far along x. */
    static OldMap shifts(int... along) {
        OldMap x = new OldMap();
        for (int s : along) {
            x.point(0, 0, s, 0);
        }
        return x;
    }

    /** POINTS that are on the new map where they are on the old one, by two numbers each. */
    static OldMap still(int... numbers) {
        OldMap x = new OldMap();
        for (int k = 0; k + 1 < numbers.length; k += 2) {
            x.point(numbers[k], numbers[k + 1], numbers[k], numbers[k + 1]);
        }
        return x;
    }

    /** As many POINTS, TRIANGLES (those of even numbers turned over) and THINGS as may be. */
    static OldMap full() {
        OldMap x = new OldMap();
        for (int k = 0; k < 12; k++) {
            x.point(k, k * k, k, k * k + 2 * (k % 2));
        }
        for (int k = 0; k < 10; k++) {
            x.triangle(k, k + 2, k + 1);
        }
        for (int k = 0; k < 6; k++) {
            x.thing(0, k / 2, k, 10 * k);
            x.thing(1, k / 2, k + 1, 10 * k + 3);
        }
        return x;
    }

    /** What an object tells of all that it holds, in fewer calls than it may be used for. */
    static String told(OldMap x) {
        StringBuilder s = new StringBuilder();
        for (int what = 0; what < 9; what++) {
            s.append(what).append(" many ").append(x.many(what)).append('\n');
        }
        for (int k = 0; k < x.many(0); k++) {
            for (int what = 0; what < 6; what++) {
                s.append(x.of(k, what)).append(' ');
            }
        }
        for (int t = 0; t < x.many(2); t++) {
            s.append("\nstate ").append(x.state(t)).append(' ').append(x.area(t, 0)).append(' ')
                    .append(x.area(t, 1)).append(' ').append(x.carried(t, 0, 77, -991, 0));
        }
        for (int kind = 0; kind < 3; kind++) {
            s.append("\nkind ").append(kind).append(' ').append(x.bend(kind, 0)).append(' ')
                    .append(x.miss(kind, 0)).append(' ').append(x.beyond(kind)).append(' ')
                    .append(x.lying(kind)).append(' ').append(x.cost(kind)).append(' ')
                    .append(x.left(kind));
        }
        for (int old = 0; old < x.many(5); old++) {
            s.append("\nmatch ").append(x.match(0, old));
        }
        for (int what = 0; what < 2; what++) {
            int v = x.rule(what, 0);
            s.append("\nrule ").append(v);
            x.rule(what, v);
        }
        return s.toString();
    }
}
