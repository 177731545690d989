/** Counts answers that are not as due, and prints each of them. */
final class Due {
    private final String test;
    private int asked = 0;
    private int wrong = 0;
    private String part = "";

    Due(String test) {
        this.test = test;
    }

    void part(String name) {
        part = name;
    }

    void is(String call, long got, long due) {
        asked++;
        if (got != due) {
            wrong++;
            if (wrong <= 40) {
                System.out.println(part + ": " + call + " answered " + got + ", due is " + due);
            }
        }
    }

    void holds(String what, boolean is) {
        is(what, is ? 1 : 0, 1);
    }

    int wrong() {
        return wrong;
    }

    void end() {
        System.out.println(test + ": " + asked + " answers, " + wrong + " not as due");
        if (wrong != 0 || asked == 0) {
            System.exit(1);
        }
    }
}
