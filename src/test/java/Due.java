/** Compares answers with those that are due, tells what is wrong, and ends the program. */
final class Due {
    private final String test;
    private int right;
    private int wrong;

    Due(String test) {
        this.test = test;
    }

    void is(String call, long got, long want) {
        is(call, Long.toString(got), Long.toString(want));
    }

    void is(String call, String got, String want) {
        if (got.equals(want)) {
            right++;
            return;
        }
        wrong++;
        System.out.println(test + ": " + call + " answered " + got + ", due is " + want);
    }

    void holds(String what, boolean holds) {
        is(what, holds ? 1 : 0, 1);
    }

    void end() {
        System.out.println(test + ": " + right + " right, " + wrong + " wrong");
        if (wrong > 0 || right == 0) {
            System.exit(1);
        }
    }
}
