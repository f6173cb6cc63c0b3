/**
 * A CrossingDesk under test. What it answers after 512 calls is free, so a test that asks it more
 * often proves nothing: that test is told so.
 */
final class Desk {
    static final int MOST_CALLS = 512;

    private final CrossingDesk inner = new CrossingDesk();
    private int calls = 0;

    private CrossingDesk counted() {
        calls++;
        if (calls > MOST_CALLS) {
            throw new IllegalStateException("the test makes more than " + MOST_CALLS + " calls on one object");
        }
        return inner;
    }

    int callsLeft() {
        return MOST_CALLS - calls;
    }

    int set(int p, int time, int ticks) {
        return counted().set(p, time, ticks);
    }

    int mode(int p, int modes) {
        return counted().mode(p, modes);
    }

    int exchange(int ring, int side) {
        return counted().exchange(ring, side);
    }

    int car(int p, int is) {
        return counted().car(p, is);
    }

    int push(int p) {
        return counted().push(p);
    }

    int stick(int p, int light) {
        return counted().stick(p, light);
    }

    int run(int ticks) {
        return counted().run(ticks);
    }

    int restart() {
        return counted().restart();
    }

    int of(int p, int what) {
        return counted().of(p, what);
    }

    int ring(int r, int what) {
        return counted().ring(r, what);
    }

    int state(int what) {
        return counted().state(what);
    }

    int check() {
        return counted().check();
    }
}
