import java.util.ArrayList;
import java.util.List;

/**
 * Every call with every combination of edge numbers as its arguments, on tables that are empty,
 * full, flat, few or full of lies: each answer is the model's, and none throws.
 */
public final class EveryEdgeTest {
    private static final int LOW = Integer.MIN_VALUE;
    private static final int HIGH = Integer.MAX_VALUE;
    private static final int[] MANY = {LOW, LOW + 1, -2000, -1001, -1000, -33, -2, -1, 0, 1, 2, 3, 4,
        5, 6, 7, 8, 9, 10, 11, 12, 13, 32, 64, 999, 1000, 1001, 2000, 2001, 4096, HIGH};
    /** For calls with more than two arguments. */
    private static final int[] SOME = {LOW, -1001, -1000, -1, 0, 1, 2, 3, 6, 11, 1000, 1001, HIGH};
    /** An object may be asked so often; it is made anew ahead of that. */
    private static final int MOST_CALLS = 512;
    private static final List<String> CHANGING = List.of("point", "move", "sure", "put", "drop",
            "rule", "triangle", "thing", "sweep", "back");

    private final Due due;
    private final List<int[]> recipe;
    private OldMap map;
    private OldMapModel model;
    private int asked;

    private EveryEdgeTest(Due due, List<int[]> recipe) {
        this.due = due;
        this.recipe = recipe;
        anew();
    }

    public static void main(String[] args) {
        Due due = new Due("EveryEdgeTest");
        due.part("empty");
        new EveryEdgeTest(due, List.of()).run();
        due.part("ordinary");
        new EveryEdgeTest(due, ordinary()).run();
        due.part("full");
        new EveryEdgeTest(due, full()).run();
        due.part("flat");
        new EveryEdgeTest(due, flat()).run();
        due.part("few");
        new EveryEdgeTest(due, few()).run();
        due.part("liars");
        new EveryEdgeTest(due, liars()).run();
        due.end();
    }

    /** A step of a recipe: a call's number, then its arguments. */
    private static int[] step(String name, int... arguments) {
        int[] row = new int[6];
        row[0] = Calls.number(name);
        System.arraycopy(arguments, 0, row, 1, arguments.length);
        return row;
    }

    private static List<int[]> ordinary() {
        List<int[]> steps = new ArrayList<>();
        steps.add(step("point", 0, 0, 5, 6));
        steps.add(step("point", 10, 0, 14, 7));
        steps.add(step("point", 0, 10, 6, 17));
        steps.add(step("point", 10, 10, 300, 15));
        steps.add(step("triangle", 0, 1, 2));
        steps.add(step("triangle", 1, 2, 3));
        steps.add(step("keep"));
        steps.add(step("triangle", 0, 2, 3));
        steps.add(step("thing", 0, 1, 3, 4));
        steps.add(step("thing", 0, 1, 5, 9));
        steps.add(step("thing", 0, 2, 0, 1));
        steps.add(step("thing", 1, 1, 8, 8));
        steps.add(step("thing", 1, 2, 90, 8));
        return steps;
    }

    private static List<int[]> full() {
        List<int[]> steps = new ArrayList<>();
        for (int k = 0; k < 12; k++) {
            steps.add(step("point", k * k - 70, 90 * k - 400, 5 * k * k - 300, 1000 - 150 * k));
        }
        for (int k = 0; k < 10; k++) {
            steps.add(step("triangle", k, k + 1, k + 2));
        }
        for (int k = 0; k < 6; k++) {
            steps.add(step("thing", 0, k % 2, 100 * k, -k));
            steps.add(step("thing", 1, k % 3, 90 * k, k));
        }
        steps.add(step("keep"));
        steps.add(step("move", 6, 1, 1000, 1000));
        steps.add(step("put", 2, 0));
        steps.add(step("sure", 3, 0));
        return steps;
    }

    private static List<int[]> flat() {
        List<int[]> steps = new ArrayList<>(ordinary());
        steps.add(step("move", 3, 0, 5, 5));
        steps.add(step("move", 1, 1, 7, 18));
        return steps;
    }

    private static List<int[]> few() {
        List<int[]> steps = new ArrayList<>(ordinary());
        steps.add(step("put", 0, 0));
        steps.add(step("put", 1, 0));
        steps.add(step("sure", 2, 0));
        steps.add(step("sure", 3, 0));
        return steps;
    }

    private static List<int[]> liars() {
        List<int[]> steps = new ArrayList<>();
        for (int k = 0; k < 8; k++) {
            steps.add(step("point", k % 3, k % 2, 100 * (k * k % 17) - 500, k % 5 * 90));
        }
        steps.add(step("rule", 0, 0));
        steps.add(step("rule", 1, 0));
        return steps;
    }

    private void anew() {
        map = new OldMap();
        model = new OldMapModel();
        asked = 0;
        for (int[] row : recipe) {
            same(row[0], row[1], row[2], row[3], row[4], row[5]);
        }
    }

    private long same(int call, int... arguments) {
        long want = Calls.ask(model, call, arguments);
        due.is(Calls.text(call, arguments), Calls.ask(map, call, arguments), want);
        asked++;
        return want;
    }

    private void run() {
        for (int call = 0; call < Calls.NAMES.length; call++) {
            boolean changing = CHANGING.contains(Calls.NAMES[call]);
            int[] edges = Calls.ARGUMENTS[call] > 2 ? SOME : MANY;
            long combinations = 1;
            for (int k = 0; k < Calls.ARGUMENTS[call]; k++) {
                combinations *= edges.length;
            }
            for (long c = 0; c < combinations; c++) {
                long answer = same(call, arguments(c, edges));
                if (changing && answer >= 0) {
                    tellAll();
                    anew();
                } else if (asked + 60 > MOST_CALLS) {
                    anew();
                }
            }
        }
    }

    private static int[] arguments(long combination, int[] edges) {
        int[] a = new int[5];
        long rest = combination;
        for (int k = 0; k < a.length; k++) {
            a[k] = edges[(int) (rest % edges.length)];
            rest /= edges.length;
        }
        return a;
    }

    /** A change shows in what is counted, and in what a POINT and a bend are. */
    private void tellAll() {
        for (int what = 0; what < 7; what++) {
            same(Calls.number("many"), what);
        }
        for (int point = 0; point < 12; point += 3) {
            same(Calls.number("of"), point, asked % 6);
            same(Calls.number("off"), point % 3, point, asked % 4);
        }
        same(Calls.number("cost"), 0);
        same(Calls.number("beyond"), 1);
        same(Calls.number("rule"), 0, 10);
        same(Calls.number("rule"), 1, 100);
    }
}
