/**
 * Terms: "A green WALKS, if walk is more than 0, and walkers had pushed, or by mode 16 ..; else it
 * does neither." Told by promise 10.
 */
final class TermsWalkTest {
    private static final Due due = new Due("promise 10, of: walks");

    public static void main(String[] args) {
        due.test("walk 0 with walkers: neither walks nor clears", TermsWalkTest::walk0);
        due.test("walk 0 by mode 16: neither walks nor clears", TermsWalkTest::walk0ByMode);
        due.test("walk 1: walks in the tick it begins alone", TermsWalkTest::walk1);
        due.test("no walkers, no mode 16: neither", TermsWalkTest::noWalkers);
        due.test("by mode 16 without walkers", TermsWalkTest::byMode);
        due.test("each tick of walking and clearing", TermsWalkTest::eachTick);
        due.test("clearing 0: walks alone", TermsWalkTest::clearing0);
        due.test("clearing 1: clears for one tick", TermsWalkTest::clearing1);
        due.test("walk 100 and clearing 200, the longest", TermsWalkTest::longest);
        due.test("walkers who push after the green began are too late", TermsWalkTest::pushedTooLate);
        due.test("mode 16 after the green began is too late", TermsWalkTest::modeTooLate);
        due.test("mode 16 taken away after the green began", TermsWalkTest::modeTakenAway);
        due.test("walk and clearing as told when it began", TermsWalkTest::asToldWhenItBegan);
        due.test("walk set from 0 after the green began is too late", TermsWalkTest::walkSetTooLate);
        due.test("the next green walks only by new walkers", TermsWalkTest::nextGreen);
        due.test("each ring walks by itself", TermsWalkTest::eachRingByItself);
        due.test("may not end in the last tick of walking", TermsWalkTest::mayNotEndWalking);
        due.test("may not end in the last tick of clearing", TermsWalkTest::mayNotEndClearing);
        due.test("pressure does not cut walkers short", TermsWalkTest::pressureDoesNotCut);
        due.end();
    }

    private static Desk with(int p, int walk, int clearing) {
        Desk x = new Desk();
        x.set(p, 5, walk);
        x.set(p, 6, clearing);
        return x;
    }

    private static void walksFor(Desk x, int p, int... wants) {
        for (int want : wants) {
            x.run(1);
            due.is("time " + x.state(0) + ": of(" + p + ", 1)", x.of(p, 1), want);
        }
    }

    private static void walk0() {
        for (int p = 0; p < 8; p++) {
            Desk x = with(p, 0, 5);
            x.push(p);
            walksFor(x, p, 0, 0, 0);
        }
    }

    private static void walk0ByMode() {
        for (int p = 0; p < 8; p++) {
            Desk x = with(p, 0, 5);
            x.mode(p, 17);
            walksFor(x, p, 0, 0, 0);
            due.is("green", x.of(p, 0), 2);
        }
    }

    private static void walk1() {
        for (int p = 0; p < 8; p++) {
            Desk x = with(p, 1, 0);
            x.push(p);
            walksFor(x, p, 1, 0, 0);
        }
    }

    private static void noWalkers() {
        for (int p = 0; p < 8; p++) {
            Desk x = with(p, 3, 2);
            x.car(p, 1);
            walksFor(x, p, 0, 0, 0, 0, 0);
            for (int modes = 5; modes <= 9; modes += 4) {
                Desk y = with(p, 3, 2);
                y.mode(p, modes);
                walksFor(y, p, 0, 0, 0, 0, 0);
            }
        }
    }

    private static void byMode() {
        for (int p = 0; p < 8; p++) {
            Desk x = with(p, 2, 1);
            x.mode(p, 17);
            walksFor(x, p, 1, 1, 2, 0);
        }
    }

    private static void eachTick() {
        for (int p = 0; p < 8; p++) {
            Desk x = with(p, 3, 2);
            x.push(p);
            walksFor(x, p, 1, 1, 1, 2, 2, 0, 0);
        }
    }

    private static void clearing0() {
        for (int p = 0; p < 8; p++) {
            Desk x = with(p, 2, 0);
            x.push(p);
            walksFor(x, p, 1, 1, 0, 0);
        }
    }

    private static void clearing1() {
        for (int p = 0; p < 8; p++) {
            Desk x = with(p, 2, 1);
            x.push(p);
            walksFor(x, p, 1, 1, 2, 0);
        }
    }

    private static void longest() {
        for (int p = 0; p < 8; p++) {
            Desk x = with(p, 100, 200);
            x.push(p);
            walksFor(x, p, 1);
            x.run(98);
            walksFor(x, p, 1, 2);
            x.run(198);
            walksFor(x, p, 2, 0);
        }
    }

    private static void pushedTooLate() {
        Desk x = with(0, 3, 2);
        x.car(0, 1);
        x.run(1);
        x.push(0);
        walksFor(x, 0, 0, 0, 0, 0);
        due.is("they have pushed", x.of(0, 7), 1);
    }

    private static void modeTooLate() {
        Desk x = with(0, 3, 2);
        x.car(0, 1);
        x.run(1);
        x.mode(0, 19);
        walksFor(x, 0, 0, 0, 0, 0);
    }

    private static void modeTakenAway() {
        Desk x = with(0, 3, 2);
        x.mode(0, 19);
        x.run(1);
        x.mode(0, 3);
        walksFor(x, 0, 1, 1, 2, 2, 0);
    }

    private static void asToldWhenItBegan() {
        Desk x = with(0, 3, 2);
        x.push(0);
        x.run(1);
        x.set(0, 5, 50);
        x.set(0, 6, 50);
        walksFor(x, 0, 1, 1, 2);
        x.set(0, 5, 0);
        x.set(0, 6, 0);
        walksFor(x, 0, 2, 0, 0);
        Desk y = with(0, 3, 2);
        y.push(0);
        y.run(1);
        y.set(0, 5, 0);
        y.set(0, 6, 0);
        walksFor(y, 0, 1, 1, 2, 2, 0);
    }

    private static void walkSetTooLate() {
        Desk x = with(0, 0, 2);
        x.push(0);
        x.run(1);
        x.set(0, 5, 9);
        walksFor(x, 0, 0, 0, 0);
    }

    private static void nextGreen() {
        Desk x = with(0, 2, 1);
        x.push(0);
        x.run(1);
        x.mode(0, 5);
        x.mode(1, 5);
        x.run(21);
        due.is("greens", x.of(0, 5), 1);
        walksFor(x, 0, 0, 0, 0);
        due.is("greens", x.of(0, 5), 2);
        x.push(0);
        x.run(19);
        walksFor(x, 0, 1, 1, 2, 0);
        due.is("greens", x.of(0, 5), 3);
    }

    private static void eachRingByItself() {
        Desk x = with(0, 3, 2);
        x.set(4, 5, 1);
        x.set(4, 6, 1);
        x.push(0);
        x.push(4);
        int[] inRing0 = {1, 1, 1, 2, 2, 0};
        int[] inRing1 = {1, 2, 0, 0, 0, 0};
        for (int i = 0; i < 6; i++) {
            x.run(1);
            due.is("of(0, 1)", x.of(0, 1), inRing0[i]);
            due.is("of(4, 1)", x.of(4, 1), inRing1[i]);
        }
    }

    private static void mayNotEndWalking() {
        for (int p = 0; p < 8; p++) {
            Desk x = with(p, 9, 0);
            x.push(p);
            x.run(9);
            due.ring(x, p / 4, p, 1, 8, 0, 0, 0, -1);
            due.is("walks", x.of(p, 1), 1);
            x.run(1);
            due.ring(x, p / 4, p, 1, 9, 0, 0, 1, -1);
        }
    }

    private static void mayNotEndClearing() {
        for (int p = 0; p < 8; p++) {
            Desk x = with(p, 4, 5);
            x.push(p);
            x.run(1);
            x.push(p ^ 2);
            x.run(8);
            due.ring(x, p / 4, p, 1, 8, 0, 8, 0, -1);
            due.is("clears", x.of(p, 1), 2);
            x.run(1);
            due.ring(x, p / 4, p, 2, 0, 0, 0, 0, -1);
        }
    }

    private static void pressureDoesNotCut() {
        Desk x = with(0, 6, 6);
        x.set(0, 2, 1);
        x.set(0, 0, 1);
        x.push(0);
        x.car(0, 1);
        x.push(1);
        x.run(12);
        due.ring(x, 0, 0, 1, 11, 3, 11, 0, -1);
        x.run(1);
        due.ring(x, 0, 0, 2, 0, 0, 0, 0, 1);
    }
}
