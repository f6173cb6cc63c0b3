/**
 * Terms, steps 1 and 2 of a tick, and MAY END: what a ring does as it grows older. Told by promises 8,
 * 10, 11.
 */
final class TermsGreensTest {
    private static final Due due = new Due("promise 8, run: steps 1, 2, may end");

    public static void main(String[] args) {
        due.test("step 1: called has waited one more, in the tick of its green too", TermsGreensTest::waitsOneMore);
        due.test("step 1: others 0, in the tick after", TermsGreensTest::othersZero);
        due.test("step 1: at most stays after a shorter wait, and grows with a longer one", TermsGreensTest::atMost);
        due.test("step 1: waits while yellow, and while crossing", TermsGreensTest::waitsWhileYellow);
        due.test("step 1: the longest wait is counted in full", TermsGreensTest::longWait);
        due.test("step 2: age is 0 when it has just begun", TermsGreensTest::ageBegins);
        due.test("step 2: age of a dark ring stays 0", TermsGreensTest::darkHasNoAge);
        due.test("step 2: left is one less, but not below 0", TermsGreensTest::leftNotBelow0);
        due.test("step 2: left is gap while a car stands there", TermsGreensTest::leftWithCar);
        due.test("step 2: left is one less in the first tick without a car", TermsGreensTest::leftAfterCar);
        due.test("step 2: left is gap by mode 8", TermsGreensTest::leftByMode8);
        due.test("step 2: left with gap 0", TermsGreensTest::leftWithGap0);
        due.test("step 2: left is the gap that is set now", TermsGreensTest::leftAsSetNow);
        due.test("step 2: a car at another movement does not hold left", TermsGreensTest::leftOwnCar);
        due.test("step 2: pressure by any other one", TermsGreensTest::pressureByEach);
        due.test("step 2: pressure 0 when no other is called", TermsGreensTest::pressureFalls);
        due.test("step 2: pressure not by its own walkers", TermsGreensTest::pressureNotByItself);
        due.test("step 2: pressure not by a green one", TermsGreensTest::pressureNotByGreen);
        due.test("step 2: pressure by a yellow one", TermsGreensTest::pressureByYellow);
        due.test("step 2: yellow as long as it must be now", TermsGreensTest::yellowAsSetNow);
        due.test("step 2: red behind as long as it must be now", TermsGreensTest::redBehindAsSetNow);
        due.test("step 2: red behind 0 is dark at once", TermsGreensTest::redBehind0);
        due.test("step 2: red behind 1", TermsGreensTest::redBehind1);
        due.test("may end: age one less than least green, and as much", TermsGreensTest::leastGreen);
        due.test("may end: least green holds against pressure", TermsGreensTest::leastGreenAgainstPressure);
        due.test("may end: left 1, and 0", TermsGreensTest::leftEnds);
        due.test("may end: pressure one less than most green, and as much", TermsGreensTest::mostGreen);
        due.test("may end: pressure more than most green", TermsGreensTest::moreThanMostGreen);
        due.test("may end: pressure alone counts, not age", TermsGreensTest::pressureNotAge);
        due.test("may end: not when yellow, red behind or dark", TermsGreensTest::onlyGreens);
        due.end();
    }

    private static Desk green(int p) {
        Desk x = new Desk();
        x.push(p);
        x.run(1);
        return x;
    }

    private static void waitsOneMore() {
        for (int p = 0; p < 8; p++) {
            Desk x = new Desk();
            x.push(p);
            due.of(x, p, 0, 0, 1, 0, 0, 0);
            x.run(1);
            due.of(x, p, 2, 0, 0, 1, 1, 1);
            x.push(p ^ 2);
            x.run(3);
            due.of(x, p ^ 2, 0, 0, 1, 3, 3, 0);
        }
    }

    private static void othersZero() {
        for (int p = 0; p < 8; p++) {
            Desk x = green(p);
            x.run(1);
            due.of(x, p, 2, 0, 0, 0, 1, 1);
            int q = p ^ 1;
            x.mode(q, 1);
            x.car(q, 1);
            x.run(3);
            x.car(q, 0);
            due.of(x, q, 0, 0, 0, 3, 3, 0);
            x.run(1);
            due.of(x, q, 0, 0, 0, 0, 3, 0);
        }
    }

    private static void atMost() {
        Desk x = green(0);
        x.car(0, 1);
        x.mode(2, 1);
        int[] waits = {5, 4, 5, 6, 1};
        int[] most = {5, 5, 5, 6, 6};
        for (int i = 0; i < waits.length; i++) {
            x.car(2, 1);
            x.run(waits[i]);
            due.of(x, 2, 0, 0, 1, waits[i], most[i], 0);
            x.car(2, 0);
            x.run(1);
            due.of(x, 2, 0, 0, 0, 0, most[i], 0);
        }
    }

    private static void waitsWhileYellow() {
        Desk x = green(0);
        x.push(0);
        x.push(2);
        x.run(5);
        due.of(x, 0, 1, 0, 1, 0, 1, 1);
        x.run(1);
        due.of(x, 0, 1, 0, 1, 1, 1, 1);
        x.run(4);
        due.of(x, 0, 0, 0, 1, 5, 5, 1);
        due.is("crossing", x.state(2), 1);
    }

    private static void longWait() {
        Desk x = new Desk();
        x.set(0, 2, 500);
        x.car(0, 1);
        x.run(1);
        x.push(2);
        x.run(500);
        due.of(x, 2, 0, 0, 1, 500, 500, 0);
        x.run(6);
        due.of(x, 2, 2, 0, 0, 506, 506, 1);
    }

    private static void ageBegins() {
        for (int p = 0; p < 8; p++) {
            Desk x = green(p);
            due.is("green", x.ring(p / 4, 2), 0);
            x.run(1);
            due.is("green", x.ring(p / 4, 2), 1);
            x.push(p ^ 1);
            x.run(4);
            due.is("yellow", x.ring(p / 4, 2), 0);
            x.run(1);
            due.is("yellow", x.ring(p / 4, 2), 1);
            x.run(3);
            due.is("red behind", x.ring(p / 4, 2), 0);
            x.run(1);
            due.is("red behind", x.ring(p / 4, 2), 1);
            x.run(1);
            due.is("the next green", x.ring(p / 4, 2), 0);
        }
    }

    private static void darkHasNoAge() {
        for (int p = 0; p < 8; p++) {
            Desk x = green(p);
            x.run(9);
            due.ring(x, 1 - p / 4, -1, 0, 0, 0, 0, 0, -1);
        }
    }

    private static void leftNotBelow0() {
        for (int p = 0; p < 8; p++) {
            Desk x = green(p);
            for (int left = 3; left > 0; left--) {
                due.is("left", x.ring(p / 4, 3), left);
                x.run(1);
            }
            due.is("left", x.ring(p / 4, 3), 0);
            x.run(1);
            due.is("left", x.ring(p / 4, 3), 0);
            x.run(100);
            due.is("left", x.ring(p / 4, 3), 0);
        }
    }

    private static void leftWithCar() {
        for (int p = 0; p < 8; p++) {
            Desk x = green(p);
            x.run(2);
            x.car(p, 1);
            due.is("left, before a tick", x.ring(p / 4, 3), 1);
            x.run(1);
            due.is("left", x.ring(p / 4, 3), 3);
            x.run(50);
            due.is("left", x.ring(p / 4, 3), 3);
            x.car(p, 0);
            x.run(50);
            due.is("left", x.ring(p / 4, 3), 0);
            x.car(p, 1);
            x.run(1);
            due.is("left", x.ring(p / 4, 3), 3);
        }
    }

    private static void leftAfterCar() {
        for (int p = 0; p < 8; p++) {
            Desk x = green(p);
            x.car(p, 1);
            x.run(9);
            x.car(p, 0);
            due.is("left, before a tick", x.ring(p / 4, 3), 3);
            x.run(1);
            due.is("left", x.ring(p / 4, 3), 2);
        }
    }

    private static void leftByMode8() {
        for (int p = 0; p < 8; p++) {
            Desk x = new Desk();
            x.mode(p, 9);
            x.run(40);
            due.ring(x, p / 4, p, 1, 39, 3, 0, 0, -1);
            x.mode(p, 5);
            x.run(2);
            due.ring(x, p / 4, p, 1, 41, 1, 0, 0, -1);
            x.run(1);
            due.ring(x, p / 4, p, 1, 42, 0, 0, 1, -1);
        }
    }

    private static void leftWithGap0() {
        Desk x = new Desk();
        x.set(0, 1, 0);
        x.car(0, 1);
        x.run(1);
        due.is("left", x.ring(0, 3), 0);
        x.run(1);
        due.is("left", x.ring(0, 3), 0);
    }

    private static void leftAsSetNow() {
        Desk x = green(0);
        x.set(0, 1, 9);
        x.run(1);
        due.is("no car: one less", x.ring(0, 3), 2);
        x.car(0, 1);
        x.run(1);
        due.is("a car: gap", x.ring(0, 3), 9);
        x.set(0, 1, 1);
        due.is("before a tick", x.ring(0, 3), 9);
        x.run(1);
        due.is("a car: gap", x.ring(0, 3), 1);
    }

    private static void leftOwnCar() {
        for (int q = 1; q < 8; q++) {
            Desk x = green(0);
            x.car(q, 1);
            x.run(2);
            due.is("left with a car at " + q, x.ring(0, 3), 1);
        }
    }

    private static void pressureByEach() {
        for (int p = 0; p < 8; p++) {
            for (int q = 0; q < 8; q++) {
                Desk x = new Desk();
                x.push(p);
                x.push(p ^ 4);
                x.run(1);
                x.car(q, 1);
                int waits = q == p || q == (p ^ 4) ? 0 : 1;
                due.is("pressure", x.ring(p / 4, 4), 0);
                x.run(1);
                due.is("pressure by " + q + " on " + p, x.ring(p / 4, 4), waits);
                due.is("pressure by " + q + " on " + (p ^ 4), x.ring(1 - p / 4, 4), waits);
                x.run(3);
                due.is("pressure by " + q + " on " + p, x.ring(p / 4, 4), 4 * waits);
            }
        }
    }

    private static void pressureFalls() {
        Desk x = new Desk();
        x.mode(5, 1);
        x.car(0, 1);
        x.car(4, 1);
        x.run(1);
        x.car(5, 1);
        x.run(7);
        due.is("pressure", x.ring(0, 4), 7);
        due.is("pressure", x.ring(1, 4), 7);
        x.car(5, 0);
        x.run(1);
        due.is("pressure", x.ring(0, 4), 0);
        due.is("pressure", x.ring(1, 4), 0);
        x.car(5, 1);
        x.run(1);
        due.is("pressure begins anew", x.ring(0, 4), 1);
        due.is("pressure begins anew", x.ring(1, 4), 1);
    }

    private static void pressureNotByItself() {
        for (int p = 0; p < 8; p++) {
            Desk x = green(p);
            x.mode(p, 31);
            x.car(p, 1);
            x.push(p);
            x.run(50);
            due.ring(x, p / 4, p, 1, 50, 3, 0, 0, -1);
        }
    }

    private static void pressureNotByGreen() {
        Desk x = new Desk();
        x.car(0, 1);
        x.car(4, 1);
        x.run(1);
        x.push(4);
        x.run(50);
        due.ring(x, 0, 0, 1, 50, 3, 0, 0, -1);
        due.ring(x, 1, 4, 1, 50, 3, 0, 0, -1);
    }

    private static void pressureByYellow() {
        Desk x = new Desk();
        x.car(0, 1);
        x.push(4);
        x.run(1);
        x.mode(5, 1);
        x.car(5, 1);
        x.run(5);
        due.ring(x, 1, 4, 2, 0, 0, 0, 0, 5);
        x.car(5, 0);
        x.run(1);
        due.is("nobody is called", x.ring(0, 4), 0);
        x.push(4);
        x.run(1);
        due.is("the yellow one is", x.ring(0, 4), 1);
    }

    private static void yellowAsSetNow() {
        for (int ticks : new int[] {10, 6, 5}) {
            Desk x = new Desk();
            x.set(0, 3, 20);
            x.push(0);
            x.push(1);
            x.run(6);
            x.run(5);
            due.ring(x, 0, 0, 2, 5, 0, 0, 0, 1);
            x.set(0, 3, ticks);
            due.ring(x, 0, 0, 2, 5, 0, 0, 0, 1);
            x.run(Math.max(ticks - 6, 0));
            due.is("yellow", x.ring(0, 1), 2);
            x.run(1);
            due.ring(x, 0, 0, 3, 0, 0, 0, 0, 1);
        }
    }

    private static void redBehindAsSetNow() {
        for (int ticks : new int[] {10, 6, 5, 0}) {
            Desk x = new Desk();
            x.set(0, 4, 20);
            x.push(0);
            x.push(1);
            x.run(10);
            x.run(5);
            due.ring(x, 0, 0, 3, 5, 0, 0, 0, 1);
            x.set(0, 4, ticks);
            due.ring(x, 0, 0, 3, 5, 0, 0, 0, 1);
            x.run(Math.max(ticks - 6, 0));
            due.is("red behind", x.ring(0, 1), 3);
            due.is("run(1)", x.run(1), 1);
            due.ring(x, 0, 1, 1, 0, 3, 0, 0, -1);
        }
    }

    private static void redBehind0() {
        Desk x = new Desk();
        x.set(0, 4, 0);
        x.push(0);
        x.push(1);
        x.run(9);
        due.ring(x, 0, 0, 2, 3, 0, 0, 0, 1);
        due.is("run(1)", x.run(1), 1);
        due.ring(x, 0, 1, 1, 0, 3, 0, 0, -1);
        due.is("the guard is content", x.state(3), 0);
    }

    private static void redBehind1() {
        Desk x = new Desk();
        x.set(0, 4, 1);
        x.push(0);
        x.push(1);
        x.run(10);
        due.ring(x, 0, 0, 3, 0, 0, 0, 0, 1);
        due.is("run(1)", x.run(1), 1);
        due.ring(x, 0, 1, 1, 0, 3, 0, 0, -1);
    }

    private static void leastGreen() {
        for (int p = 0; p < 8; p++) {
            Desk x = new Desk();
            x.set(p, 0, 20);
            x.push(p);
            x.run(1);
            x.push(p ^ 2);
            x.run(19);
            due.ring(x, p / 4, p, 1, 19, 0, 19, 0, -1);
            x.run(1);
            due.ring(x, p / 4, p, 2, 0, 0, 0, 0, -1);
        }
    }

    private static void leastGreenAgainstPressure() {
        for (int p = 0; p < 8; p++) {
            Desk x = new Desk();
            x.set(p, 0, 8);
            x.set(p, 2, 2);
            x.car(p, 1);
            x.run(1);
            x.push(p ^ 2);
            x.run(7);
            due.ring(x, p / 4, p, 1, 7, 3, 7, 0, -1);
            x.run(1);
            due.ring(x, p / 4, p, 2, 0, 0, 0, 0, -1);
        }
    }

    private static void leftEnds() {
        for (int p = 0; p < 8; p++) {
            Desk x = new Desk();
            x.set(p, 1, 9);
            x.push(p);
            x.run(1);
            x.push(p ^ 2);
            x.run(8);
            due.ring(x, p / 4, p, 1, 8, 1, 8, 0, -1);
            x.run(1);
            due.ring(x, p / 4, p, 2, 0, 0, 0, 0, -1);
        }
    }

    private static void mostGreen() {
        for (int p = 0; p < 8; p++) {
            Desk x = new Desk();
            x.set(p, 2, 10);
            x.car(p, 1);
            x.run(1);
            x.push(p ^ 2);
            x.run(9);
            due.ring(x, p / 4, p, 1, 9, 3, 9, 0, -1);
            x.run(1);
            due.ring(x, p / 4, p, 2, 0, 0, 0, 0, -1);
        }
    }

    private static void moreThanMostGreen() {
        Desk x = new Desk();
        x.car(0, 1);
        x.car(4, 1);
        x.run(1);
        x.push(2);
        x.run(10);
        due.ring(x, 0, 0, 1, 10, 3, 10, 0, -1);
        x.set(0, 2, 9);
        due.ring(x, 0, 0, 1, 10, 3, 10, 1, -1);
        x.set(0, 2, 11);
        due.ring(x, 0, 0, 1, 10, 3, 10, 0, -1);
    }

    private static void pressureNotAge() {
        Desk x = new Desk();
        x.set(0, 2, 10);
        x.car(0, 1);
        x.run(51);
        due.ring(x, 0, 0, 1, 50, 3, 0, 0, -1);
        x.push(6);
        x.run(9);
        due.ring(x, 0, 0, 1, 59, 3, 9, 0, -1);
        x.run(1);
        due.ring(x, 0, 0, 2, 0, 0, 0, 0, -1);
    }

    private static void onlyGreens() {
        Desk x = new Desk();
        x.set(0, 3, 20);
        x.set(0, 4, 20);
        x.push(0);
        x.run(1);
        x.push(2);
        x.run(5);
        for (int i = 0; i < 39; i++) {
            x.run(1);
            due.is("may end", x.ring(0, 5), 0);
            due.is("may end, dark", x.ring(1, 5), 0);
        }
        due.ring(x, 0, 0, 3, 19, 0, 0, 0, -1);
    }
}
