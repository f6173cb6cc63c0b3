/** Promises 7 and 9: lamps that are stuck, what the guard sees, and restarts. */
final class GuardTest {
    private static final int[] WRONG = {-1, 8, Integer.MIN_VALUE, Integer.MAX_VALUE};
    private static final Due due = new Due();

    public static void main(String[] args) {
        stickShowsAtOnce();
        stickRefused();
        wayOfEachPair();
        wayTwiceByDifferentPairs();
        wayOnceIsForgiven();
        yellowIsInTheWayToo();
        greenToRed();
        greenToRedByUnsticking();
        shortYellow();
        yellowLooksAreOneBehindTheOther();
        leastFaultIsTold();
        flashingStopsAllButTime();
        greensOfTheLastTickCount();
        callsWhileFlashing();
        restartRefused();
        restartBeginsAnew();
        restartKeepsAllElse();
        guardForgetsOnRestart();
        due.end();
    }

    private static void stickShowsAtOnce() {
        for (int p = 0; p < 8; p++) {
            CrossingDesk x = new CrossingDesk();
            for (int light = 0; light < 3; light++) {
                due.is("stick", x.stick(p, light), 1);
                due.is("light", x.of(p, 0), light);
                due.is("stick again", x.stick(p, light), 1);
            }
            due.is("not any more", x.stick(p, -1), 1);
            due.is("light", x.of(p, 0), 0);
            due.is("not stuck at all", x.stick(p, -1), 1);
        }
        CrossingDesk y = new CrossingDesk();
        y.stick(0, 2);
        due.is("a stuck light is not a green", y.car(0, 1) + y.of(0, 2) + y.of(0, 8), 3);
        due.is("greens", y.of(0, 5), 0);
    }

    private static void stickRefused() {
        CrossingDesk x = new CrossingDesk();
        for (int p : WRONG) {
            due.is("stick(" + p + ", 0)", x.stick(p, 0), 0);
            due.is("stick(" + p + ", -1)", x.stick(p, -1), 0);
        }
        x.stick(0, 2);
        int[] lights = {-2, 3, Integer.MIN_VALUE, Integer.MAX_VALUE};
        for (int light : lights) {
            due.is("stick(0, " + light + ")", x.stick(0, light), 0);
        }
        due.is("light", x.of(0, 0), 2);
    }

    private static void wayOfEachPair() {
        for (int p = 0; p < 8; p++) {
            for (int q = 0; q < 8; q++) {
                CrossingDesk x = new CrossingDesk();
                x.stick(p, 2);
                x.stick(q, 2);
                boolean sameRing = p < 4 == q < 4;
                boolean sameSide = (p & 2) == (q & 2);
                boolean inWay = p != q && sameRing || !sameSide;
                x.run(1);
                due.is("first look at " + p + " and " + q, x.state(3), 0);
                x.run(1);
                due.is("second look at " + p + " and " + q, x.state(3), inWay ? 1 : 0);
                due.is("check()", x.check(), 1);
            }
        }
    }

    private static void wayTwiceByDifferentPairs() {
        CrossingDesk x = new CrossingDesk();
        x.stick(0, 2);
        x.stick(1, 2);
        x.run(1);
        x.stick(0, 1);
        x.stick(6, 2);
        x.run(1);
        due.is("any two", x.state(3), 1);
        CrossingDesk y = new CrossingDesk();
        for (int i = 0; i < 3; i++) {
            y.stick(0, 1);
            y.stick(1, 1);
            y.run(1);
            due.is("flashing", y.state(3), i == 0 ? 0 : 1);
        }
    }

    private static void wayOnceIsForgiven() {
        CrossingDesk x = new CrossingDesk();
        x.stick(0, 1);
        x.run(3);
        x.stick(1, 2);
        x.run(1);
        due.is("in the way once", x.state(3), 0);
        x.stick(0, 0);
        x.run(1);
        due.is("not any more", x.state(3), 0);
        x.stick(0, 1);
        x.run(1);
        due.is("in the way once more, but not in the last look", x.state(3), 0);
        x.run(1);
        due.is("now in the last look too", x.state(3), 1);
    }

    private static void yellowIsInTheWayToo() {
        CrossingDesk x = new CrossingDesk();
        x.stick(3, 1);
        x.stick(4, 1);
        x.run(2);
        due.is("two yellow ones", x.state(3), 1);
        CrossingDesk y = new CrossingDesk();
        y.stick(7, 1);
        y.push(0);
        y.run(2);
        due.is("one green as told", y.state(3), 1);
    }

    private static void greenToRed() {
        CrossingDesk x = new CrossingDesk();
        x.push(4);
        x.run(1);
        x.stick(4, 0);
        due.is("light", x.of(4, 0), 0);
        due.is("not looked yet", x.state(3), 0);
        x.run(1);
        due.is("looked", x.state(3), 2);
        due.lights(x, 3, 3, 3, 3, 3, 3, 3, 3);
    }

    private static void greenToRedByUnsticking() {
        CrossingDesk x = new CrossingDesk();
        x.stick(6, 2);
        x.stick(6, -1);
        x.run(1);
        due.is("the guard never saw it", x.state(3), 0);
        x.stick(6, 2);
        x.run(1);
        x.stick(6, -1);
        x.run(1);
        due.is("it saw it", x.state(3), 2);
    }

    private static void shortYellow() {
        for (int looks = 1; looks <= 4; looks++) {
            CrossingDesk x = new CrossingDesk();
            x.stick(5, 1);
            x.run(looks);
            x.stick(5, 0);
            x.run(1);
            due.is("yellow for " + looks, x.state(3), looks < 3 ? 3 : 0);
        }
    }

    private static void yellowLooksAreOneBehindTheOther() {
        CrossingDesk x = new CrossingDesk();
        x.stick(5, 1);
        x.run(2);
        x.stick(5, 2);
        x.run(1);
        x.stick(5, 1);
        x.run(2);
        due.is("yellow behind green", x.state(3), 0);
        x.stick(5, 0);
        x.run(1);
        due.is("two and two are not four", x.state(3), 3);
        CrossingDesk y = new CrossingDesk();
        y.stick(5, 1);
        y.run(3);
        y.stick(5, 0);
        y.run(1);
        y.stick(5, 1);
        y.run(1);
        y.stick(5, 0);
        y.run(1);
        due.is("the earlier three do not help", y.state(3), 3);
    }

    private static void leastFaultIsTold() {
        CrossingDesk x = new CrossingDesk();
        x.stick(0, 1);
        x.stick(4, 2);
        x.run(1);
        x.stick(0, 0);
        x.stick(4, 0);
        x.run(1);
        due.is("2 before 3", x.state(3), 2);
        CrossingDesk y = new CrossingDesk();
        y.stick(0, 2);
        y.stick(4, 1);
        y.run(1);
        y.stick(0, 0);
        y.stick(4, 0);
        y.run(1);
        due.is("2 before 3", y.state(3), 2);
        CrossingDesk z = new CrossingDesk();
        z.stick(0, 2);
        z.stick(1, 2);
        z.stick(2, 2);
        z.run(1);
        z.stick(0, 0);
        z.run(1);
        due.is("1 before 2", z.state(3), 1);
    }

    private static CrossingDesk flashing() {
        CrossingDesk x = new CrossingDesk();
        x.set(0, 5, 9);
        x.set(0, 6, 30);
        x.push(0);
        x.car(0, 1);
        x.run(3);
        x.car(1, 1);
        x.stick(7, 2);
        x.run(1);
        x.stick(7, 0);
        x.run(1);
        return x;
    }

    private static void flashingStopsAllButTime() {
        CrossingDesk x = flashing();
        due.state(x, 5, 0, 0, 2, 0);
        due.ring(x, 0, 0, 1, 4, 3, 2, 0, -1);
        due.of(x, 0, 3, 1, 0, 0, 1, 1, 1, 0, 0);
        due.of(x, 1, 3, 0, 1, 2, 2, 0, 1, 0, 1);
        due.is("run(500)", x.run(500), 0);
        due.state(x, 505, 0, 0, 2, 0);
        due.ring(x, 0, 0, 1, 4, 3, 2, 0, -1);
        due.of(x, 0, 3, 1, 0, 0, 1, 1, 1, 0, 0);
        due.of(x, 1, 3, 0, 1, 2, 2, 0, 1, 0, 1);
        due.lights(x, 3, 3, 3, 3, 3, 3, 3, 3);
        due.is("run(-1)", x.run(-1), -1);
        due.is("check()", x.check(), 1);
    }

    private static void greensOfTheLastTickCount() {
        CrossingDesk x = new CrossingDesk();
        x.stick(5, 2);
        x.run(1);
        x.stick(5, 0);
        x.push(0);
        due.is("run(9)", x.run(9), 1);
        due.state(x, 10, 0, 0, 2, 0);
    }

    private static void callsWhileFlashing() {
        CrossingDesk x = flashing();
        due.is("car(6, 1)", x.car(6, 1), 1);
        due.is("push(3)", x.push(3), 1);
        due.is("exchange of the ring's side", x.exchange(0, 0), 0);
        due.is("exchange", x.exchange(1, 0), 1);
        due.is("set", x.set(0, 0, 1), 1);
        due.is("mode", x.mode(5, 7), 1);
        due.is("stick", x.stick(7, -1), 1);
        due.of(x, 6, 3, 0, 1, 0, 0, 0, 1, 0, 1);
        due.of(x, 3, 3, 0, 1, 0, 0, 0, 0, 1, 0);
    }

    private static void restartRefused() {
        CrossingDesk x = new CrossingDesk();
        x.push(2);
        x.run(4);
        due.is("restart()", x.restart(), 0);
        due.ring(x, 0, 2, 1, 3, 0, 0, 0, -1);
        due.state(x, 4, 1, 0, 0, 1);
        CrossingDesk y = flashing();
        due.is("restart()", y.restart(), 1);
        due.is("restart()", y.restart(), 0);
    }

    private static void restartBeginsAnew() {
        CrossingDesk x = new CrossingDesk();
        x.push(2);
        x.car(6, 1);
        x.run(4);
        due.state(x, 4, 1, 0, 0, 1);
        x.stick(2, 0);
        x.run(1);
        due.state(x, 5, 1, 0, 2, 1);
        due.ring(x, 1, 6, 1, 4, 3, 0, 0, -1);
        due.is("restart()", x.restart(), 1);
        due.state(x, 5, 0, 0, 0, 1);
        due.ring(x, 0, -1, 0, 0, 0, 0, 0, -1);
        due.ring(x, 1, -1, 0, 0, 0, 0, 0, -1);
        due.lights(x, 0, 0, 0, 0, 0, 0, 0, 0);
        due.is("the car still calls", x.of(6, 2), 1);
        due.is("run(1)", x.run(1), 1);
        due.state(x, 6, 1, 0, 0, 2);
        restartOutOfCrossing();
        restartWithNext();
        restartWhileWalking();
    }

    private static void restartOutOfCrossing() {
        CrossingDesk x = new CrossingDesk();
        x.push(0);
        x.run(1);
        x.push(2);
        x.run(5);
        due.state(x, 6, 0, 1, 0, 1);
        x.stick(0, 0);
        x.run(1);
        due.state(x, 7, 0, 1, 3, 1);
        x.restart();
        x.stick(0, -1);
        due.state(x, 7, 0, 0, 0, 1);
        due.is("run(1)", x.run(1), 1);
        due.state(x, 8, 1, 0, 0, 2);
    }

    private static void restartWithNext() {
        CrossingDesk x = new CrossingDesk();
        x.push(0);
        x.push(1);
        x.run(6);
        due.ring(x, 0, 0, 2, 0, 0, 0, 0, 1);
        x.stick(0, 0);
        x.run(1);
        due.is("flashing", x.state(3), 3);
        due.is("next", x.ring(0, 6), 1);
        x.restart();
        due.ring(x, 0, -1, 0, 0, 0, 0, 0, -1);
        due.is("exchange", x.exchange(0, 0), 1);
    }

    private static void restartWhileWalking() {
        CrossingDesk x = flashing();
        x.restart();
        x.stick(7, -1);
        due.is("nothing walks", x.of(0, 1), 0);
        due.is("run(1)", x.run(1), 1);
        due.is("not even the green", x.of(0, 1), 0);
        x.run(5);
        due.is("it may end by age", x.ring(0, 2), 5);
        x.car(0, 0);
        x.run(3);
        due.ring(x, 0, 0, 2, 0, 0, 0, 0, 1);
    }

    private static void restartKeepsAllElse() {
        CrossingDesk x = flashing();
        x.push(6);
        x.exchange(1, 0);
        x.restart();
        due.of(x, 0, 0, 0, 1, 0, 1, 1, 1, 0, 0);
        due.of(x, 1, 0, 0, 1, 2, 2, 0, 1, 0, 1);
        due.of(x, 6, 0, 0, 1, 0, 0, 0, 0, 1, 0);
        x.stick(7, 1);
        due.is("still stuck", x.of(7, 0), 1);
        x.stick(7, 0);
        x.push(4);
        x.push(5);
        x.run(1);
        due.is("still exchanged", x.ring(1, 0), 5);
        due.state(x, 6, 0, 0, 0, 0);
    }

    private static void guardForgetsOnRestart() {
        CrossingDesk x = new CrossingDesk();
        x.stick(0, 2);
        x.stick(1, 2);
        x.run(2);
        x.restart();
        x.run(1);
        due.is("in the way once", x.state(3), 0);
        x.run(1);
        due.is("twice", x.state(3), 1);
        x.restart();
        x.stick(0, 0);
        x.stick(1, 0);
        x.run(1);
        due.is("it never saw green", x.state(3), 0);
        x.stick(0, 1);
        x.stick(1, 1);
        x.run(2);
        due.is("in the way", x.state(3), 1);
        x.restart();
        x.stick(0, 0);
        x.stick(1, 0);
        x.run(1);
        due.is("it never saw yellow", x.state(3), 0);
        x.stick(0, 1);
        x.run(2);
        x.stick(1, 1);
        x.run(2);
        due.is("in the way", x.state(3), 1);
        x.restart();
        x.stick(1, 0);
        x.run(2);
        x.stick(0, 0);
        x.run(1);
        due.is("yellow looks are counted anew", x.state(3), 3);
    }
}
