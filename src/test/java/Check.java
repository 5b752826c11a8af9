/** Counts answers that are as due and prints those that are not. */
final class Check {
    private final String name;
    private long right = 0;
    private long wrong = 0;

    Check(String name) {
        this.name = name;
    }

    void right() {
        right++;
    }

    void same(String what, long got, long due) {
        if (got == due) {
            right++;
            return;
        }
        wrong++;
        if (wrong <= 20) {
            System.out.println(name + ": " + what + " answered " + got + ", due is " + due);
        }
    }

    void holds(String what, boolean is) {
        same(what, is ? 1 : 0, 1);
    }

    /** Ends the program: with 1 if anything was not as due, or nothing was looked at. */
    void finish() {
        System.out.println(name + ": " + right + " answers as due, " + wrong + " not");
        System.exit(wrong == 0 && right > 0 ? 0 : 1);
    }
}
