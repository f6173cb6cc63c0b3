/** Runs the named tests of one promise, and ends with exit code 1 if an answer was not the one due. */
final class Due {
    private final String promise;
    private String test = "";
    private int tests = 0;
    private int askedInTest = 0;
    private int asked = 0;
    private int wrong = 0;

    Due(String promise) {
        this.promise = promise;
    }

    /** A test that asks nothing, or that ends by an exception, is wrong too. */
    void test(String name, Runnable body) {
        test = name;
        tests++;
        askedInTest = 0;
        try {
            body.run();
            if (askedInTest == 0) {
                tell("asks nothing");
            }
        } catch (RuntimeException | StackOverflowError thrown) {
            tell("threw " + thrown);
        }
    }

    void is(String call, int got, int want) {
        asked++;
        askedInTest++;
        if (got != want) {
            tell(call + " answered " + got + ", due is " + want);
        }
    }

    private void tell(String what) {
        wrong++;
        System.out.println(promise + ": " + test + ": " + what);
    }

    /** One answer of a ring after another, from what 0 on. */
    void ring(Desk x, int r, int... wants) {
        int time = x.state(0);
        for (int what = 0; what < wants.length; what++) {
            is("time " + time + ": ring(" + r + ", " + what + ")", x.ring(r, what), wants[what]);
        }
    }

    /** One answer of a movement after another, from what 0 on. */
    void of(Desk x, int p, int... wants) {
        int time = x.state(0);
        for (int what = 0; what < wants.length; what++) {
            is("time " + time + ": of(" + p + ", " + what + ")", x.of(p, what), wants[what]);
        }
    }

    /** One answer of the state after another, from what 0 on. */
    void state(Desk x, int... wants) {
        int time = x.state(0);
        for (int what = 0; what < wants.length; what++) {
            is("time " + time + ": state(" + what + ")", x.state(what), wants[what]);
        }
    }

    /** The lights of the movements from 0 on. */
    void lights(Desk x, int... wants) {
        int time = x.state(0);
        for (int p = 0; p < wants.length; p++) {
            is("time " + time + ": of(" + p + ", 0)", x.of(p, 0), wants[p]);
        }
    }

    void end() {
        System.out.println(promise + ": " + tests + " tests, " + asked + " answers, " + wrong + " wrong");
        if (wrong != 0) {
            System.exit(1);
        }
    }
}
