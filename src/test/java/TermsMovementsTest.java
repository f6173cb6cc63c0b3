/**
 * Terms: "p belongs to RING p / 4 and SIDE p % 4 / 2", who is FIRST, and what calls. Told by promises
 * 8, 10, 11.
 */
final class TermsMovementsTest {
    private static final Due due = new Due("terms, movements and calls");

    public static void main(String[] args) {
        due.test("promise 11, ring: 3 is in ring 0, 4 in ring 1", TermsMovementsTest::ringOfEach);
        due.test("promise 12, state: 1 and 5 are on side 0, 2 and 6 on side 1", TermsMovementsTest::sideOfEach);
        due.test("promise 8, run: the lesser one is first", TermsMovementsTest::lesserIsFirst);
        due.test("promise 10, of: called by a car alone", TermsMovementsTest::byCar);
        due.test("promise 10, of: called by a remembered call alone", TermsMovementsTest::byRemembered);
        due.test("promise 10, of: called by walkers alone", TermsMovementsTest::byWalkers);
        due.test("promise 10, of: called by each of modes 4, 8, 16 alone", TermsMovementsTest::byModes);
        due.test("promise 10, of: called by nothing", TermsMovementsTest::byNothing);
        due.test("promise 10, of: not called when not used", TermsMovementsTest::notUsed);
        due.test("promise 10, of: not called while green", TermsMovementsTest::notWhileGreen);
        due.test("promise 10, of: called while yellow and red behind", TermsMovementsTest::whileYellowAndRedBehind);
        due.test("promise 8, run: a green forgets call and walkers, not the car", TermsMovementsTest::greenForgets);
        due.test("promise 8, run: a green forgets its own alone", TermsMovementsTest::forgetsItsOwn);
        due.end();
    }

    private static void ringOfEach() {
        for (int p = 0; p < 8; p++) {
            Desk x = new Desk();
            x.push(p);
            x.run(1);
            due.is("ring 0", x.ring(0, 0), p < 4 ? p : -1);
            due.is("ring 1", x.ring(1, 0), p < 4 ? -1 : p);
        }
    }

    private static void sideOfEach() {
        int[] sides = {0, 0, 1, 1, 0, 0, 1, 1};
        for (int p = 0; p < 8; p++) {
            Desk x = new Desk();
            x.push(p);
            x.run(1);
            due.state(x, 1, sides[p], 0, 0, sides[p]);
        }
    }

    private static void lesserIsFirst() {
        for (int first = 0; first < 8; first += 2) {
            Desk x = new Desk();
            x.push(first + 1);
            x.push(first);
            x.run(1);
            due.is("green", x.ring(first / 4, 0), first);
            x.run(5);
            due.is("next", x.ring(first / 4, 6), first + 1);
        }
    }

    private static void byCar() {
        for (int p = 0; p < 8; p++) {
            Desk x = new Desk();
            x.mode(p, 1);
            x.car(p, 1);
            due.of(x, p, 0, 0, 1, 0, 0, 0, 1, 0, 0);
            due.is("run(1)", x.run(1), 1);
        }
    }

    private static void byRemembered() {
        for (int p = 0; p < 8; p++) {
            Desk x = new Desk();
            x.car(p, 1);
            x.car(p, 0);
            due.of(x, p, 0, 0, 1, 0, 0, 0, 0, 0, 1);
            due.is("run(1)", x.run(1), 1);
        }
    }

    private static void byWalkers() {
        for (int p = 0; p < 8; p++) {
            Desk x = new Desk();
            x.mode(p, 1);
            x.push(p);
            due.of(x, p, 0, 0, 1, 0, 0, 0, 0, 1, 0);
            due.is("run(1)", x.run(1), 1);
        }
    }

    private static void byModes() {
        for (int p = 0; p < 8; p++) {
            for (int mode = 4; mode <= 16; mode *= 2) {
                Desk x = new Desk();
                x.mode(p, 1 + mode);
                due.of(x, p, 0, 0, 1, 0, 0, 0, 0, 0, 0);
                due.is("run(1)", x.run(1), 1);
            }
        }
    }

    private static void byNothing() {
        for (int p = 0; p < 8; p++) {
            Desk x = new Desk();
            x.mode(p, 1 + 2 + 32);
            due.of(x, p, 0, 0, 0, 0, 0, 0, 0, 0, 0);
            due.is("run(20)", x.run(20), 0);
        }
    }

    private static void notUsed() {
        for (int p = 0; p < 8; p++) {
            Desk x = new Desk();
            x.car(p, 1);
            x.push(p);
            x.mode(p, 62);
            due.of(x, p, 0, 0, 0, 0, 0, 0, 1, 1, 1);
            due.is("run(20)", x.run(20), 0);
            due.of(x, p, 0, 0, 0, 0, 0, 0, 1, 1, 1);
        }
    }

    private static void notWhileGreen() {
        for (int p = 0; p < 8; p++) {
            Desk x = new Desk();
            x.mode(p, 31);
            x.run(1);
            x.car(p, 1);
            x.push(p);
            due.of(x, p, 2, 0, 0, 1, 1, 1, 1, 1, 0);
        }
    }

    private static void whileYellowAndRedBehind() {
        for (int p = 0; p < 8; p++) {
            Desk x = new Desk();
            x.push(p);
            x.run(1);
            x.push(p);
            x.push(p ^ 2);
            x.run(4);
            due.is("green", x.of(p, 2), 0);
            x.run(1);
            due.is("yellow", x.of(p, 2), 1);
            x.run(3);
            due.is("yellow still", x.of(p, 2), 1);
            x.run(1);
            due.is("red behind", x.of(p, 2), 1);
        }
    }

    private static void greenForgets() {
        for (int p = 0; p < 8; p++) {
            Desk x = new Desk();
            x.car(p, 1);
            x.push(p);
            due.of(x, p, 0, 0, 1, 0, 0, 0, 1, 1, 1);
            x.run(1);
            due.of(x, p, 2, 0, 0, 1, 1, 1, 1, 0, 0);
        }
    }

    private static void forgetsItsOwn() {
        Desk x = new Desk();
        for (int p = 0; p < 8; p++) {
            x.car(p, 1);
            x.push(p);
        }
        x.run(1);
        for (int p = 0; p < 8; p++) {
            int kept = p == 0 || p == 4 ? 0 : 1;
            due.of(x, p, 2 - 2 * kept, 0, kept, 1, 1, 1 - kept, 1, kept, kept);
        }
    }
}
