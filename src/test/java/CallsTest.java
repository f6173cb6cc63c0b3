/** Promises 5 and 6: cars and walkers, and the calls they leave. */
final class CallsTest {
    private static final int[] WRONG = {-1, 8, Integer.MIN_VALUE, Integer.MAX_VALUE};
    private static final Due due = new Due();

    public static void main(String[] args) {
        carComesAndGoes();
        carRefused();
        callIsRememberedByModeAlone();
        noCallWhileGreen();
        callWhileYellow();
        greenForgets();
        pushOnce();
        pushWhileGreenStays();
        waiting();
        walkAndClearing();
        walkNeedsItsTimeAndWalkers();
        walkAsToldWhenGreenBegan();
        pressureDoesNotCutWalkers();
        due.end();
    }

    private static void carComesAndGoes() {
        for (int p = 0; p < 8; p++) {
            CrossingDesk x = new CrossingDesk();
            due.is("none stands", x.car(p, 0), 0);
            due.is("comes", x.car(p, 1), 1);
            due.of(x, p, 0, 0, 1, 0, 0, 0, 1, 0, 1);
            due.is("stands", x.car(p, 1), 0);
            due.is("goes", x.car(p, 0), 1);
            due.of(x, p, 0, 0, 1, 0, 0, 0, 0, 0, 1);
            due.is("gone", x.car(p, 0), 0);
        }
    }

    private static void carRefused() {
        CrossingDesk x = new CrossingDesk();
        for (int p : WRONG) {
            due.is("car(" + p + ", 1)", x.car(p, 1), 0);
            due.is("car(" + p + ", 0)", x.car(p, 0), 0);
        }
        int[] numbers = {-1, 2, 3, Integer.MIN_VALUE, Integer.MAX_VALUE};
        for (int is : numbers) {
            due.is("car(0, " + is + ")", x.car(0, is), 0);
        }
        due.of(x, 0, 0, 0, 0, 0, 0, 0, 0, 0, 0);
        x.car(0, 1);
        for (int is : numbers) {
            due.is("car(0, " + is + ")", x.car(0, is), 0);
        }
        due.is("it stands", x.of(0, 6), 1);
    }

    private static void callIsRememberedByModeAlone() {
        CrossingDesk x = new CrossingDesk();
        x.mode(0, 1);
        x.car(0, 1);
        due.of(x, 0, 0, 0, 1, 0, 0, 0, 1, 0, 0);
        x.mode(0, 3);
        due.is("it came before", x.of(0, 8), 0);
        x.mode(0, 1);
        x.car(0, 0);
        due.is("not called any more", x.of(0, 2), 0);
        x.mode(0, 3);
        x.car(0, 1);
        x.car(0, 0);
        x.mode(0, 1);
        due.is("remembered before, so it stays", x.of(0, 8), 1);
        due.is("and calls", x.of(0, 2), 1);
    }

    private static void noCallWhileGreen() {
        CrossingDesk x = new CrossingDesk();
        x.push(0);
        x.run(1);
        x.car(0, 1);
        due.of(x, 0, 2, 0, 0, 1, 1, 1, 1, 0, 0);
        x.car(0, 0);
        due.is("nothing is remembered", x.of(0, 8), 0);
    }

    private static void callWhileYellow() {
        CrossingDesk x = new CrossingDesk();
        x.push(0);
        x.run(1);
        x.push(2);
        x.run(5);
        due.is("yellow", x.of(0, 0), 1);
        x.car(0, 1);
        due.of(x, 0, 1, 0, 1, 0, 1, 1, 1, 0, 1);
        x.run(5);
        due.is("red behind", x.ring(0, 1), 3);
        x.car(0, 0);
        x.car(0, 1);
        due.of(x, 0, 0, 0, 1, 5, 5, 1, 1, 0, 1);
    }

    private static void greenForgets() {
        CrossingDesk x = new CrossingDesk();
        x.car(5, 1);
        x.push(5);
        due.of(x, 5, 0, 0, 1, 0, 0, 0, 1, 1, 1);
        due.is("run(1)", x.run(1), 1);
        due.of(x, 5, 2, 0, 0, 1, 1, 1, 1, 0, 0);
    }

    private static void pushOnce() {
        for (int p = 0; p < 8; p++) {
            CrossingDesk x = new CrossingDesk();
            due.is("push", x.push(p), 1);
            due.is("they had", x.push(p), 0);
            due.of(x, p, 0, 0, 1, 0, 0, 0, 0, 1, 0);
        }
        CrossingDesk y = new CrossingDesk();
        for (int p : WRONG) {
            due.is("push(" + p + ")", y.push(p), 0);
        }
    }

    private static void pushWhileGreenStays() {
        CrossingDesk x = new CrossingDesk();
        x.push(0);
        x.run(1);
        due.is("forgotten", x.push(0), 1);
        due.of(x, 0, 2, 0, 0, 1, 1, 1, 0, 1, 0);
        x.push(1);
        x.run(5);
        due.is("called when yellow", x.of(0, 2), 1);
    }

    private static void waiting() {
        CrossingDesk x = new CrossingDesk();
        x.push(0);
        x.run(1);
        due.of(x, 0, 2, 0, 0, 1, 1, 1);
        x.car(2, 1);
        due.of(x, 2, 0, 0, 1, 0, 0, 0);
        x.run(11);
        due.of(x, 2, 2, 0, 0, 11, 11, 1);
        due.of(x, 0, 0, 0, 0, 0, 1, 1);
        x.run(1);
        due.of(x, 2, 2, 0, 0, 0, 11, 1);
        x.mode(7, 1);
        x.car(7, 1);
        x.car(0, 1);
        x.run(3);
        due.of(x, 0, 0, 0, 1, 3, 3, 1);
        x.mode(0, 0);
        due.of(x, 0, 0, 0, 0, 3, 3, 1);
        x.run(1);
        due.of(x, 0, 0, 0, 0, 0, 3, 1);
        x.mode(0, 1);
        x.run(1);
        due.of(x, 0, 0, 0, 1, 1, 3, 1);
    }

    private static void walkAndClearing() {
        CrossingDesk x = new CrossingDesk();
        x.set(4, 5, 3);
        x.set(4, 6, 2);
        x.set(4, 1, 0);
        x.set(4, 0, 1);
        x.push(4);
        x.run(1);
        int[] walks = {1, 1, 1, 2, 2, 0, 0};
        for (int walk : walks) {
            due.is("walks at age " + x.ring(1, 2), x.of(4, 1), walk);
            due.is("may end at age " + x.ring(1, 2), x.ring(1, 5), walk == 0 ? 1 : 0);
            x.run(1);
        }
        due.is("another does not walk", x.of(5, 1), 0);
    }

    private static void walkNeedsItsTimeAndWalkers() {
        CrossingDesk x = new CrossingDesk();
        x.set(0, 5, 3);
        x.set(0, 6, 2);
        x.car(0, 1);
        x.run(1);
        due.is("a car, no walkers", x.of(0, 1), 0);
        CrossingDesk y = new CrossingDesk();
        y.set(0, 6, 9);
        y.push(0);
        y.run(1);
        due.is("walk is 0, so no clearing", y.of(0, 1), 0);
        CrossingDesk z = new CrossingDesk();
        z.set(0, 5, 1);
        z.mode(0, 17);
        z.run(1);
        due.is("by mode 16", z.of(0, 1), 1);
        z.run(1);
        due.is("without clearing", z.of(0, 1), 0);
        CrossingDesk w = new CrossingDesk();
        w.set(0, 5, 4);
        w.car(0, 1);
        w.run(1);
        w.push(0);
        w.mode(0, 19);
        w.run(1);
        due.is("pushed too late", w.of(0, 1), 0);
        for (int modes = 5; modes <= 9; modes += 4) {
            CrossingDesk v = new CrossingDesk();
            v.set(0, 5, 4);
            v.mode(0, modes);
            v.run(1);
            due.is("modes " + modes + " do not walk", v.of(0, 1), 0);
        }
    }

    private static void walkAsToldWhenGreenBegan() {
        CrossingDesk x = new CrossingDesk();
        x.set(0, 5, 3);
        x.set(0, 6, 2);
        x.push(0);
        x.run(1);
        x.set(0, 5, 50);
        x.set(0, 6, 50);
        x.run(2);
        due.is("age 2", x.of(0, 1), 1);
        x.run(1);
        due.is("age 3", x.of(0, 1), 2);
        x.set(0, 6, 0);
        x.run(1);
        due.is("age 4", x.of(0, 1), 2);
        x.run(1);
        due.is("age 5", x.of(0, 1), 0);
    }

    private static void pressureDoesNotCutWalkers() {
        CrossingDesk x = new CrossingDesk();
        x.set(0, 2, 1);
        x.set(0, 0, 1);
        x.set(0, 5, 6);
        x.set(0, 6, 6);
        x.push(0);
        x.car(0, 1);
        x.push(1);
        x.run(12);
        due.ring(x, 0, 0, 1, 11, 3, 11, 0, -1);
        x.run(1);
        due.ring(x, 0, 0, 2, 0, 0, 0, 0, 1);
    }
}
