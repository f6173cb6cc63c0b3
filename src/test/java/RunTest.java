/** Promise 8: run, and what a tick does in which order. */
final class RunTest {
    private static final Due due = new Due();

    public static void main(String[] args) {
        runKeepsWithinItsNumbers();
        runCountsGreens();
        bothRingsBegin();
        gapIsHeldByCars();
        gapIsHeldByMode8();
        leastGreenHolds();
        leastGreenHoldsAgainstPressure();
        mostGreenEnds();
        pressureFallsWhenNobodyWaits();
        greenRestsWhenNobodyWaits();
        yellowAndRedBehindAsToldNow();
        noRedBehind();
        secondAfterFirst();
        secondTurnsBackToFirst();
        secondDoesNotTurnBackWhenOthersWait();
        firstGoesOnBeforeCrossing();
        crossingInOneTick();
        crossingWaitsForBothRings();
        crossingWaitsForSlowerRing();
        crossingEndsEvenWhenCallIsGone();
        comesAlong();
        darkRingBeginsOnThisSideFirst();
        longestRunEnds();
        due.end();
    }

    private static void runKeepsWithinItsNumbers() {
        CrossingDesk x = new CrossingDesk();
        x.push(0);
        int[] wrong = {-1, 501, Integer.MIN_VALUE, Integer.MAX_VALUE};
        for (int ticks : wrong) {
            due.is("run(" + ticks + ")", x.run(ticks), -1);
        }
        due.state(x, 0, 0, 0, 0, 0);
        due.is("nothing is done", x.of(0, 2), 1);
        due.is("run(0)", x.run(0), 0);
        due.state(x, 0, 0, 0, 0, 0);
        due.is("run(500)", x.run(500), 1);
        due.state(x, 500, 0, 0, 0, 0);
    }

    private static void runCountsGreens() {
        CrossingDesk x = new CrossingDesk();
        x.mode(0, 5);
        x.mode(1, 5);
        due.is("run(11)", x.run(11), 1);
        due.is("run(1)", x.run(1), 1);
        due.is("greens of 0", x.of(0, 5), 1);
        due.is("greens of 1", x.of(1, 5), 1);
        due.is("run(110)", x.run(110), 10);
        due.is("greens of 0", x.of(0, 5), 6);
        due.is("greens of 1", x.of(1, 5), 6);
    }

    private static void bothRingsBegin() {
        CrossingDesk x = new CrossingDesk();
        x.push(1);
        x.push(4);
        x.push(5);
        due.is("run(1)", x.run(1), 2);
        due.lights(x, 0, 2, 0, 0, 2, 0, 0, 0);
    }

    private static void gapIsHeldByCars() {
        CrossingDesk x = new CrossingDesk();
        x.set(0, 1, 4);
        x.push(0);
        x.run(1);
        due.is("left", x.ring(0, 3), 4);
        x.run(2);
        due.is("left", x.ring(0, 3), 2);
        x.car(0, 1);
        due.is("left", x.ring(0, 3), 2);
        x.run(1);
        due.is("left", x.ring(0, 3), 4);
        x.set(0, 1, 9);
        x.run(1);
        due.is("left as gap is now", x.ring(0, 3), 9);
        x.car(0, 0);
        x.run(20);
        due.ring(x, 0, 0, 1, 24, 0, 0, 1, -1);
    }

    private static void gapIsHeldByMode8() {
        CrossingDesk x = new CrossingDesk();
        x.mode(0, 9);
        x.run(40);
        due.ring(x, 0, 0, 1, 39, 3, 0, 0, -1);
        x.mode(0, 5);
        x.run(2);
        due.ring(x, 0, 0, 1, 41, 1, 0, 0, -1);
        x.run(1);
        due.ring(x, 0, 0, 1, 42, 0, 0, 1, -1);
    }

    private static void leastGreenHolds() {
        CrossingDesk x = new CrossingDesk();
        x.set(0, 0, 20);
        x.set(0, 1, 0);
        x.push(0);
        x.push(1);
        x.run(20);
        due.ring(x, 0, 0, 1, 19, 0, 19, 0, -1);
        x.run(1);
        due.ring(x, 0, 0, 2, 0, 0, 0, 0, 1);
        due.of(x, 0, 1);
    }

    private static void leastGreenHoldsAgainstPressure() {
        CrossingDesk x = new CrossingDesk();
        x.set(0, 0, 8);
        x.set(0, 2, 2);
        x.car(0, 1);
        x.push(2);
        x.push(1);
        x.run(8);
        due.ring(x, 0, 0, 1, 7, 3, 7, 0, -1);
        x.run(1);
        due.ring(x, 0, 0, 2, 0, 0, 0, 0, 1);
    }

    private static void mostGreenEnds() {
        CrossingDesk x = new CrossingDesk();
        x.set(0, 2, 10);
        x.car(0, 1);
        x.run(20);
        x.push(6);
        x.run(9);
        due.ring(x, 0, 0, 1, 28, 3, 9, 0, -1);
        x.run(1);
        due.ring(x, 0, 0, 2, 0, 0, 0, 0, -1);
        due.state(x, 30, 0, 1, 0, 1);
    }

    private static void pressureFallsWhenNobodyWaits() {
        CrossingDesk x = new CrossingDesk();
        x.mode(5, 1);
        x.car(0, 1);
        x.car(4, 1);
        x.run(1);
        x.car(5, 1);
        x.run(7);
        due.is("pressure of ring 0", x.ring(0, 4), 7);
        due.is("pressure of ring 1", x.ring(1, 4), 7);
        x.car(5, 0);
        x.run(1);
        due.is("pressure of ring 0", x.ring(0, 4), 0);
        due.is("pressure of ring 1", x.ring(1, 4), 0);
        due.is("both green", x.ring(0, 1) + x.ring(1, 1), 2);
    }

    private static void greenRestsWhenNobodyWaits() {
        CrossingDesk x = new CrossingDesk();
        x.push(7);
        x.run(500);
        due.ring(x, 1, 7, 1, 499, 0, 0, 1, -1);
        due.state(x, 500, 1, 0, 0, 1);
    }

    private static void yellowAndRedBehindAsToldNow() {
        CrossingDesk x = new CrossingDesk();
        x.set(0, 3, 10);
        x.set(0, 4, 8);
        x.push(0);
        x.push(1);
        x.run(6);
        due.ring(x, 0, 0, 2, 0, 0, 0, 0, 1);
        x.run(9);
        due.ring(x, 0, 0, 2, 9, 0, 0, 0, 1);
        x.run(1);
        due.ring(x, 0, 0, 3, 0, 0, 0, 0, 1);
        x.run(5);
        due.ring(x, 0, 0, 3, 5, 0, 0, 0, 1);
        x.set(0, 4, 3);
        due.is("run(1)", x.run(1), 1);
        due.ring(x, 0, 1, 1, 0, 3, 0, 0, -1);
    }

    private static void noRedBehind() {
        CrossingDesk x = new CrossingDesk();
        x.set(0, 3, 3);
        x.set(0, 4, 0);
        x.push(0);
        x.push(1);
        x.run(8);
        due.ring(x, 0, 0, 2, 2, 0, 0, 0, 1);
        due.is("run(1)", x.run(1), 1);
        due.ring(x, 0, 1, 1, 0, 3, 0, 0, -1);
        due.is("three yellow looks are enough", x.state(3), 0);
    }

    private static void secondAfterFirst() {
        CrossingDesk x = new CrossingDesk();
        x.push(5);
        x.push(4);
        x.run(1);
        due.is("first before second", x.ring(1, 0), 4);
        x.run(5);
        due.ring(x, 1, 4, 2, 0, 0, 0, 0, 5);
        x.run(6);
        due.ring(x, 1, 5, 1, 0, 3, 0, 0, -1);
        due.state(x, 12, 0, 0, 0, 0);
    }

    private static void secondTurnsBackToFirst() {
        CrossingDesk x = new CrossingDesk();
        x.push(5);
        x.run(1);
        x.push(4);
        x.run(5);
        due.ring(x, 1, 5, 2, 0, 0, 0, 0, 4);
        due.is("run(6)", x.run(6), 1);
        due.ring(x, 1, 4, 1, 0, 3, 0, 0, -1);
    }

    private static void secondDoesNotTurnBackWhenOthersWait() {
        CrossingDesk x = new CrossingDesk();
        x.push(1);
        x.car(4, 1);
        x.run(1);
        x.push(0);
        x.push(2);
        x.run(20);
        due.ring(x, 0, 1, 1, 20, 0, 20, 1, -1);
        due.state(x, 21, 0, 0, 0, 0);
        x.car(4, 0);
        x.run(3);
        due.ring(x, 0, 1, 2, 0, 0, 0, 0, -1);
        due.state(x, 24, 0, 1, 0, 1);
    }

    private static void firstGoesOnBeforeCrossing() {
        CrossingDesk x = new CrossingDesk();
        x.push(0);
        x.push(2);
        x.push(1);
        x.run(6);
        due.ring(x, 0, 0, 2, 0, 0, 0, 0, 1);
        due.state(x, 6, 0, 0, 0, 0);
        x.run(6);
        due.is("the second one", x.ring(0, 0), 1);
        x.run(5);
        due.state(x, 17, 0, 1, 0, 1);
    }

    private static void crossingInOneTick() {
        CrossingDesk x = new CrossingDesk();
        x.push(3);
        x.push(7);
        x.push(6);
        due.is("run(1)", x.run(1), 2);
        due.state(x, 1, 1, 0, 0, 1);
        due.ring(x, 0, 3, 1, 0, 3, 0, 0, -1);
        due.ring(x, 1, 6, 1, 0, 3, 0, 0, -1);
    }

    private static void crossingWaitsForBothRings() {
        CrossingDesk x = new CrossingDesk();
        x.push(0);
        x.car(4, 1);
        x.run(1);
        x.push(2);
        x.run(29);
        due.ring(x, 0, 0, 1, 29, 0, 29, 1, -1);
        due.ring(x, 1, 4, 1, 29, 3, 29, 0, -1);
        due.state(x, 30, 0, 0, 0, 0);
        x.run(1);
        due.ring(x, 0, 0, 2, 0, 0, 0, 0, -1);
        due.ring(x, 1, 4, 2, 0, 0, 0, 0, -1);
        due.state(x, 31, 0, 1, 0, 1);
    }

    private static void crossingWaitsForSlowerRing() {
        CrossingDesk x = new CrossingDesk();
        x.set(4, 3, 9);
        x.push(0);
        x.push(4);
        x.run(1);
        x.push(2);
        x.run(5);
        x.car(1, 1);
        due.is("run(6)", x.run(6), 0);
        due.ring(x, 0, -1, 0, 0, 0, 0, 0, -1);
        due.ring(x, 1, 4, 2, 6, 0, 0, 0, -1);
        due.state(x, 12, 0, 1, 0, 1);
        due.is("run(4)", x.run(4), 0);
        due.is("run(1)", x.run(1), 1);
        due.ring(x, 0, 2, 1, 0, 3, 0, 0, -1);
        due.ring(x, 1, -1, 0, 0, 0, 0, 0, -1);
        due.state(x, 17, 1, 0, 0, 1);
    }

    private static void crossingEndsEvenWhenCallIsGone() {
        CrossingDesk x = new CrossingDesk();
        x.mode(2, 1);
        x.push(0);
        x.run(1);
        x.car(2, 1);
        x.run(5);
        x.car(2, 0);
        due.state(x, 6, 0, 1, 0, 1);
        due.is("run(6)", x.run(6), 0);
        due.ring(x, 0, -1, 0, 0, 0, 0, 0, -1);
        due.state(x, 12, 1, 0, 0, 1);
    }

    private static void comesAlong() {
        CrossingDesk x = new CrossingDesk();
        x.mode(4, 33);
        x.mode(7, 33);
        x.push(0);
        due.is("only when the side changes", x.run(1), 1);
        x.push(2);
        due.is("run(11)", x.run(11), 2);
        due.lights(x, 0, 0, 2, 0, 0, 0, 0, 2);
        CrossingDesk y = new CrossingDesk();
        y.mode(6, 33);
        y.mode(7, 33);
        y.push(2);
        y.run(1);
        due.is("first before second", y.ring(1, 0), 6);
        CrossingDesk z = new CrossingDesk();
        z.mode(6, 33);
        z.push(7);
        z.run(1);
        due.is("called before coming along", z.ring(1, 0), 7);
        CrossingDesk w = new CrossingDesk();
        w.mode(6, 32);
        w.push(2);
        due.is("unused does not come along", w.run(1), 1);
        due.is("dark", w.ring(1, 0), -1);
    }

    private static void darkRingBeginsOnThisSideFirst() {
        CrossingDesk x = new CrossingDesk();
        x.push(0);
        x.run(10);
        x.push(6);
        x.push(5);
        due.is("run(1)", x.run(1), 1);
        due.ring(x, 1, 5, 1, 0, 3, 0, 0, -1);
        due.state(x, 11, 0, 0, 0, 0);
    }

    private static void longestRunEnds() {
        CrossingDesk x = new CrossingDesk();
        for (int p = 0; p < 8; p++) {
            x.mode(p, 63);
        }
        int greens = 0;
        for (int i = 0; i < 400; i++) {
            greens += x.run(500);
        }
        int counted = 0;
        for (int p = 0; p < 8; p++) {
            counted += x.of(p, 5);
        }
        due.is("greens", greens, counted);
        due.is("time", x.state(0), 200000);
        due.is("nothing flashes", x.state(3), 0);
    }
}
