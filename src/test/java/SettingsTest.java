/** Promises 1 to 4: a new object, set, mode, exchange. */
final class SettingsTest {
    private static final int[] WRONG_MOVEMENTS = {-1, 8, Integer.MIN_VALUE, Integer.MAX_VALUE};
    private static final Due due = new Due();

    public static void main(String[] args) {
        aNewObject();
        timesAtFirst();
        setKeepsWithinItsNumbers();
        setRefusedDoesNothing();
        modesAtFirst();
        modeKeepsWithinItsNumbers();
        eachModeCalls();
        unusedIsNeverCalled();
        exchangeTurnsFirstAndSecond();
        exchangeOfOneRingAndSideAlone();
        exchangeRefused();
        due.end();
    }

    private static void aNewObject() {
        CrossingDesk x = new CrossingDesk();
        due.is("NONE", CrossingDesk.NONE, -1);
        due.state(x, 0, 0, 0, 0, 0, -1);
        for (int r = 0; r < 2; r++) {
            due.ring(x, r, -1, 0, 0, 0, 0, 0, -1, -1);
        }
        for (int p = 0; p < 8; p++) {
            due.of(x, p, 0, 0, 0, 0, 0, 0, 0, 0, 0, -1);
        }
        due.is("check()", x.check(), 1);
        due.is("restart()", x.restart(), 0);
    }

    /** Least green 5, gap 3, yellow 4, red behind 2, no walk; most green 30. */
    private static void timesAtFirst() {
        for (int p = 0; p < 8; p++) {
            CrossingDesk x = new CrossingDesk();
            x.push(p);
            x.run(1);
            x.push((p ^ 4) ^ 2);
            due.ring(x, p / 4, p, 1, 0, 3, 0, 0, -1);
            due.of(x, p, 2, 0);
            x.run(4);
            due.ring(x, p / 4, p, 1, 4, 0, 4, 0, -1);
            x.run(1);
            due.ring(x, p / 4, p, 2, 0, 0, 0, 0, -1);
            x.run(4);
            due.ring(x, p / 4, p, 3, 0, 0, 0, 0, -1);
            due.is("run(1)", x.run(1), 0);
            due.is("run(1)", x.run(1), 1);
            due.ring(x, p / 4, -1, 0, 0, 0, 0, 0, -1);
        }
        CrossingDesk y = new CrossingDesk();
        y.car(0, 1);
        y.run(1);
        y.push(2);
        y.run(29);
        due.ring(y, 0, 0, 1, 29, 3, 29, 0, -1);
        y.run(1);
        due.ring(y, 0, 0, 2, 0, 0, 0, 0, -1);
    }

    private static void setKeepsWithinItsNumbers() {
        int[] lowest = {1, 0, 1, 3, 0, 0, 0};
        int[] highest = {200, 100, 500, 50, 50, 100, 200};
        CrossingDesk x = new CrossingDesk();
        for (int p = 0; p < 8; p++) {
            for (int t = 0; t < 7; t++) {
                String call = "set(" + p + ", " + t + ", ..)";
                due.is(call, x.set(p, t, lowest[t]), 1);
                due.is(call, x.set(p, t, highest[t]), 1);
                due.is(call, x.set(p, t, lowest[t] - 1), 0);
                due.is(call, x.set(p, t, highest[t] + 1), 0);
                due.is(call, x.set(p, t, Integer.MIN_VALUE), 0);
                due.is(call, x.set(p, t, Integer.MAX_VALUE), 0);
            }
            due.is("no such time", x.set(p, -1, 5), 0);
            due.is("no such time", x.set(p, 7, 5), 0);
            due.is("no such time", x.set(p, Integer.MAX_VALUE, 5), 0);
            due.is("no such time", x.set(p, Integer.MIN_VALUE, 5), 0);
        }
        for (int p : WRONG_MOVEMENTS) {
            due.is("set(" + p + ", 0, 5)", x.set(p, 0, 5), 0);
        }
    }

    private static void setRefusedDoesNothing() {
        CrossingDesk x = new CrossingDesk();
        x.set(0, 1, 7);
        x.set(0, 1, 101);
        x.set(0, 1, -1);
        x.push(0);
        x.run(1);
        due.is("gap", x.ring(0, 3), 7);
    }

    private static void modesAtFirst() {
        for (int p = 0; p < 8; p++) {
            CrossingDesk x = new CrossingDesk();
            x.car(p, 1);
            x.car(p, 0);
            due.of(x, p, 0, 0, 1, 0, 0, 0, 0, 0, 1);
        }
    }

    private static void modeKeepsWithinItsNumbers() {
        CrossingDesk x = new CrossingDesk();
        for (int p = 0; p < 8; p++) {
            due.is("mode 63", x.mode(p, 63), 1);
            due.is("mode 0", x.mode(p, 0), 1);
            due.is("mode 5", x.mode(p, 5), 1);
            due.is("mode 64", x.mode(p, 64), 0);
            due.is("mode -1", x.mode(p, -1), 0);
            due.is("mode lowest", x.mode(p, Integer.MIN_VALUE), 0);
            due.is("mode highest", x.mode(p, Integer.MAX_VALUE), 0);
            due.is("still called", x.of(p, 2), 1);
        }
        for (int p : WRONG_MOVEMENTS) {
            due.is("mode(" + p + ", 3)", x.mode(p, 3), 0);
        }
    }

    private static void eachModeCalls() {
        for (int modes = 0; modes < 64; modes++) {
            CrossingDesk x = new CrossingDesk();
            x.mode(3, modes);
            boolean called = (modes & 1) != 0 && (modes & (4 | 8 | 16)) != 0;
            due.is("called with modes " + modes, x.of(3, 2), called ? 1 : 0);
            due.is("greens with modes " + modes, x.run(1), called ? 1 : 0);
        }
    }

    private static void unusedIsNeverCalled() {
        CrossingDesk x = new CrossingDesk();
        x.mode(6, 2);
        due.is("car(6, 1)", x.car(6, 1), 1);
        due.is("push(6)", x.push(6), 1);
        due.of(x, 6, 0, 0, 0, 0, 0, 0, 1, 1, 1);
        due.is("run(10)", x.run(10), 0);
        x.mode(6, 1);
        due.of(x, 6, 0, 0, 1, 0, 0, 0, 1, 1, 1);
        due.is("run(1)", x.run(1), 1);
    }

    private static void exchangeTurnsFirstAndSecond() {
        CrossingDesk x = new CrossingDesk();
        due.is("exchange(0, 0)", x.exchange(0, 0), 1);
        x.push(0);
        x.push(1);
        x.run(1);
        due.is("the second one begins", x.ring(0, 0), 1);
        x.run(5);
        due.ring(x, 0, 1, 2, 0, 0, 0, 0, 0);
        CrossingDesk y = new CrossingDesk();
        y.exchange(0, 0);
        due.is("exchange back", y.exchange(0, 0), 1);
        y.push(0);
        y.push(1);
        y.run(1);
        due.is("the first one begins", y.ring(0, 0), 0);
    }

    private static void exchangeOfOneRingAndSideAlone() {
        for (int ring = 0; ring < 2; ring++) {
            for (int side = 0; side < 2; side++) {
                CrossingDesk x = new CrossingDesk();
                due.is("exchange(" + ring + ", " + side + ")", x.exchange(ring, side), 1);
                for (int p = 0; p < 8; p++) {
                    x.mode(p, 5);
                }
                x.run(1);
                due.is("ring 0 on side 0", x.ring(0, 0), ring == 0 && side == 0 ? 1 : 0);
                due.is("ring 1 on side 0", x.ring(1, 0), ring == 1 && side == 0 ? 5 : 4);
                x.run(22);
                due.is("the side", x.state(1), 1);
                due.is("ring 0 on side 1", x.ring(0, 0), ring == 0 && side == 1 ? 3 : 2);
                due.is("ring 1 on side 1", x.ring(1, 0), ring == 1 && side == 1 ? 7 : 6);
            }
        }
    }

    private static void exchangeRefused() {
        CrossingDesk x = new CrossingDesk();
        int[] wrong = {-1, 2, Integer.MIN_VALUE, Integer.MAX_VALUE};
        for (int bad : wrong) {
            due.is("exchange(" + bad + ", 0)", x.exchange(bad, 0), 0);
            due.is("exchange(0, " + bad + ")", x.exchange(0, bad), 0);
        }
        x.push(0);
        x.run(1);
        due.is("its first one is green", x.exchange(0, 0), 0);
        due.is("its other side", x.exchange(0, 1), 1);
        due.is("the other ring", x.exchange(1, 0), 1);
        x.push(1);
        x.run(5);
        due.ring(x, 0, 0, 2, 0, 0, 0, 0, 1);
        due.is("yellow with a next one", x.exchange(0, 0), 0);
        x.run(4);
        due.is("red behind", x.ring(0, 1), 3);
        due.is("red behind with a next one", x.exchange(0, 0), 0);
        x.run(2);
        due.is("green", x.ring(0, 0), 1);
        due.is("its second one is green", x.exchange(0, 0), 0);
        x.push(0);
        x.run(5);
        due.ring(x, 0, 1, 2, 0, 0, 0, 0, 0);
    }
}
