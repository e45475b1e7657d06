/** Counts answers that are not as due, and ends a test by them. */
final class Check {
    private static int asked = 0, wrong = 0;

    private Check() { }

    static void same(String what, long got, long want) {
        asked++;
        if (got == want) return;
        wrong++;
        if (wrong <= 40) System.out.println(what + " answered " + got + ", due is " + want);
    }

    static void holds(String what, boolean is) {
        same(what, is ? 1 : 0, 1);
    }

    static void end() {
        System.out.println(asked + " answers asked, " + wrong + " not as due");
        if (wrong != 0 || asked == 0) System.exit(1);
    }
}
