/** Compares answers with what is due, and ends a test with exit code 1 if one was wrong. */
final class Due {
    private int wrong = 0;
    private int asked = 0;

    void is(String call, int got, int want) {
        asked++;
        if (got != want) {
            wrong++;
            System.out.println(call + " answered " + got + ", due is " + want);
        }
    }

    /** One answer of a ring, movement or state after another, from what 0 on. */
    void ring(CrossingDesk x, int r, int... wants) {
        for (int what = 0; what < wants.length; what++) {
            is("time " + x.state(0) + ": ring(" + r + ", " + what + ")", x.ring(r, what), wants[what]);
        }
    }

    void of(CrossingDesk x, int p, int... wants) {
        for (int what = 0; what < wants.length; what++) {
            is("time " + x.state(0) + ": of(" + p + ", " + what + ")", x.of(p, what), wants[what]);
        }
    }

    void state(CrossingDesk x, int... wants) {
        for (int what = 0; what < wants.length; what++) {
            is("time " + x.state(0) + ": state(" + what + ")", x.state(what), wants[what]);
        }
    }

    void lights(CrossingDesk x, int... wants) {
        for (int p = 0; p < wants.length; p++) {
            is("time " + x.state(0) + ": light of " + p, x.of(p, 0), wants[p]);
        }
    }

    void end() {
        System.out.println(asked + " answers, " + wrong + " wrong");
        if (wrong != 0) {
            System.exit(1);
        }
    }
}
