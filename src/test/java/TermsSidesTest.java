/**
 * Terms, steps 3 to 5 of a tick: who is next, and how the crossing goes from side to side. Told by
 * promises 8, 11, 12.
 */
final class TermsSidesTest {
    private static final Due due = new Due("promise 8, run: steps 3 to 5");

    public static void main(String[] args) {
        due.test("step 3: the second one after the first", TermsSidesTest::secondAfterFirst);
        due.test("step 3: first may end, second is not called: it stays", TermsSidesTest::secondNotCalled);
        due.test("step 3: second is called, first may not end: it stays", TermsSidesTest::firstMayNotEnd);
        due.test("step 3: each ring by itself", TermsSidesTest::eachRing);
        due.test("step 3: a dark ring takes its first before its second", TermsSidesTest::firstBeforeSecond);
        due.test("step 3: a dark ring takes its second when the first is not called", TermsSidesTest::secondAlone);
        due.test("step 3: a dark ring takes none of the other side", TermsSidesTest::noneOfTheOtherSide);
        due.test("step 3: a dark ring takes none while crossing", TermsSidesTest::noneWhileCrossing);
        due.test("step 3: a dark ring does not come along", TermsSidesTest::noComingAlong);
        due.test("step 3: next stays next though its call is gone", TermsSidesTest::nextStaysNext);
        due.test("step 3 before 4: to the second before the other side", TermsSidesTest::secondBeforeCrossing);
        due.test("step 3 before 4: a dark ring that is called is not ready", TermsSidesTest::darkWithNextIsNotReady);
        due.test("step 4: no call on the other side, no crossing", TermsSidesTest::noCallNoCrossing);
        due.test("step 4: a call of each of the other side begins it", TermsSidesTest::eachCallBegins);
        due.test("step 4: two greens that may end are ready", TermsSidesTest::twoGreensReady);
        due.test("step 4: a green that may not end is not ready", TermsSidesTest::greenNotReady);
        due.test("step 4: a dark ring is ready", TermsSidesTest::darkIsReady);
        due.test("step 4: yellow and red behind are not ready", TermsSidesTest::yellowNotReady);
        due.test("step 4: both rings dark: begun and ended in one tick", TermsSidesTest::bothDark);
        due.test("step 4: second turns back to first", TermsSidesTest::turnsBack);
        due.test("step 4: no turning back when the other side is called", TermsSidesTest::noTurningBack);
        due.test("step 4: no turning back before it may end", TermsSidesTest::turnsBackWhenItMayEnd);
        due.test("step 4: no turning back when the first is not called", TermsSidesTest::firstNotCalled);
        due.test("step 4: each ring turns back by itself", TermsSidesTest::eachTurnsBack);
        due.test("step 5: crossing ends when both are dark, not one", TermsSidesTest::slowerRing);
        due.test("step 5: next is the first that is called there", TermsSidesTest::nextThere);
        due.test("step 5: or the second", TermsSidesTest::nextThereSecond);
        due.test("step 5: or the first that comes along", TermsSidesTest::comesAlongFirst);
        due.test("step 5: or the second that comes along", TermsSidesTest::comesAlongSecond);
        due.test("step 5: a called second before a first that comes along", TermsSidesTest::calledBeforeComingAlong);
        due.test("step 5: one that is not used does not come along", TermsSidesTest::unusedDoesNotCome);
        due.test("step 5: or none, and the side is the other one still", TermsSidesTest::orNone);
        due.test("step 5: who is called when crossing ends, not when it began", TermsSidesTest::calledAtItsEnd);
        due.test("step 5: a green begins with age 0, left gap, pressure 0", TermsSidesTest::greenBegins);
        due.test("step 5: and back to side 0", TermsSidesTest::backToSide0);
        due.end();
    }

    private static Desk green(int p) {
        Desk x = new Desk();
        x.push(p);
        x.run(1);
        return x;
    }

    private static void secondAfterFirst() {
        for (int first = 0; first < 8; first += 2) {
            Desk x = green(first);
            x.push(first + 1);
            x.run(4);
            due.ring(x, first / 4, first, 1, 4, 0, 4, 0, -1);
            x.run(1);
            due.ring(x, first / 4, first, 2, 0, 0, 0, 0, first + 1);
            due.is("run(6)", x.run(6), 1);
            due.ring(x, first / 4, first + 1, 1, 0, 3, 0, 0, -1);
            due.is("no crossing", x.state(2), 0);
        }
    }

    private static void secondNotCalled() {
        for (int first = 0; first < 8; first += 2) {
            Desk x = green(first);
            x.run(400);
            due.ring(x, first / 4, first, 1, 400, 0, 0, 1, -1);
            x.push(first + 1);
            x.run(1);
            due.ring(x, first / 4, first, 2, 0, 0, 0, 0, first + 1);
        }
    }

    private static void firstMayNotEnd() {
        for (int first = 0; first < 8; first += 2) {
            Desk x = green(first);
            x.car(first, 1);
            x.push(first + 1);
            x.run(29);
            due.ring(x, first / 4, first, 1, 29, 3, 29, 0, -1);
            x.run(1);
            due.ring(x, first / 4, first, 2, 0, 0, 0, 0, first + 1);
        }
    }

    private static void eachRing() {
        Desk x = new Desk();
        x.push(0);
        x.push(1);
        x.car(4, 1);
        x.push(5);
        x.run(6);
        due.ring(x, 0, 0, 2, 0, 0, 0, 0, 1);
        due.ring(x, 1, 4, 1, 5, 3, 5, 0, -1);
        x.car(4, 0);
        x.run(3);
        due.ring(x, 0, 0, 2, 3, 0, 0, 0, 1);
        due.ring(x, 1, 4, 2, 0, 0, 0, 0, 5);
    }

    private static void firstBeforeSecond() {
        for (int r = 0; r < 2; r++) {
            Desk x = green(4 - 4 * r);
            x.push(4 * r + 1);
            x.push(4 * r);
            due.is("run(1)", x.run(1), 1);
            due.is("green", x.ring(r, 0), 4 * r);
        }
    }

    private static void secondAlone() {
        for (int r = 0; r < 2; r++) {
            Desk x = green(4 - 4 * r);
            x.push(4 * r + 1);
            due.is("run(1)", x.run(1), 1);
            due.is("green", x.ring(r, 0), 4 * r + 1);
        }
    }

    private static void noneOfTheOtherSide() {
        for (int r = 0; r < 2; r++) {
            Desk x = green(4 - 4 * r);
            x.car(4 - 4 * r, 1);
            x.push(4 * r + 2);
            x.push(4 * r + 3);
            due.is("run(25)", x.run(25), 0);
            due.ring(x, r, -1, 0, 0, 0, 0, 0, -1);
        }
    }

    private static void noneWhileCrossing() {
        for (int r = 0; r < 2; r++) {
            Desk x = green(4 - 4 * r);
            x.push(2);
            x.run(5);
            due.is("crossing", x.state(2), 1);
            x.push(4 * r);
            x.push(4 * r + 1);
            due.is("run(5)", x.run(5), 0);
            due.ring(x, r, -1, 0, 0, 0, 0, 0, -1);
            x.run(1);
            due.state(x, 12, 1, 0, 0, 1);
        }
    }

    private static void noComingAlong() {
        Desk x = new Desk();
        for (int p = 0; p < 8; p++) {
            x.mode(p, 35);
        }
        x.push(0);
        due.is("run(1)", x.run(1), 1);
        due.is("run(50)", x.run(50), 0);
        due.ring(x, 1, -1, 0, 0, 0, 0, 0, -1);
    }

    private static void nextStaysNext() {
        Desk x = green(0);
        x.push(1);
        x.run(5);
        due.ring(x, 0, 0, 2, 0, 0, 0, 0, 1);
        x.mode(1, 0);
        x.push(0);
        due.is("run(6)", x.run(6), 1);
        due.ring(x, 0, 1, 1, 0, 3, 0, 0, -1);
    }

    private static void secondBeforeCrossing() {
        Desk x = green(0);
        x.push(1);
        x.push(2);
        x.run(5);
        due.ring(x, 0, 0, 2, 0, 0, 0, 0, 1);
        due.state(x, 6, 0, 0, 0, 0);
        x.run(6);
        due.ring(x, 0, 1, 1, 0, 3, 0, 0, -1);
        x.run(5);
        due.ring(x, 0, 1, 2, 0, 0, 0, 0, -1);
        due.state(x, 17, 0, 1, 0, 1);
    }

    private static void darkWithNextIsNotReady() {
        Desk x = green(0);
        x.run(9);
        due.is("may end", x.ring(0, 5), 1);
        x.push(5);
        x.push(6);
        due.is("run(1)", x.run(1), 1);
        due.ring(x, 1, 5, 1, 0, 3, 0, 0, -1);
        due.state(x, 11, 0, 0, 0, 0);
    }

    private static void noCallNoCrossing() {
        Desk x = new Desk();
        x.push(0);
        x.push(4);
        x.run(400);
        due.ring(x, 0, 0, 1, 399, 0, 0, 1, -1);
        due.ring(x, 1, 4, 1, 399, 0, 0, 1, -1);
        due.state(x, 400, 0, 0, 0, 0);
    }

    private static void eachCallBegins() {
        for (int p = 0; p < 8; p++) {
            for (int q = 0; q < 8; q++) {
                Desk x = green(p);
                x.run(5);
                int before = x.state(4);
                x.push(q);
                x.run(1);
                boolean otherSide = p % 4 / 2 != q % 4 / 2;
                due.is("crossing from " + p + " to " + q, x.state(2), otherSide ? 1 : 0);
                due.is("crossings began", x.state(4), before + (otherSide ? 1 : 0));
            }
        }
    }

    private static void twoGreensReady() {
        Desk x = new Desk();
        x.push(0);
        x.push(5);
        x.run(1);
        x.push(3);
        x.run(4);
        due.state(x, 5, 0, 0, 0, 0);
        x.run(1);
        due.state(x, 6, 0, 1, 0, 1);
        due.ring(x, 0, 0, 2, 0, 0, 0, 0, -1);
        due.ring(x, 1, 5, 2, 0, 0, 0, 0, -1);
    }

    private static void greenNotReady() {
        for (int r = 0; r < 2; r++) {
            Desk x = new Desk();
            x.push(4 * r);
            x.car(4 - 4 * r, 1);
            x.run(1);
            x.push(2);
            x.run(29);
            due.ring(x, r, 4 * r, 1, 29, 0, 29, 1, -1);
            due.ring(x, 1 - r, 4 - 4 * r, 1, 29, 3, 29, 0, -1);
            due.state(x, 30, 0, 0, 0, 0);
            x.run(1);
            due.ring(x, r, 4 * r, 2, 0, 0, 0, 0, -1);
            due.ring(x, 1 - r, 4 - 4 * r, 2, 0, 0, 0, 0, -1);
            due.state(x, 31, 0, 1, 0, 1);
        }
    }

    private static void darkIsReady() {
        for (int r = 0; r < 2; r++) {
            Desk x = green(4 * r);
            x.push(4 * r + 3);
            x.run(5);
            due.state(x, 6, 0, 1, 0, 1);
            due.ring(x, r, 4 * r, 2, 0, 0, 0, 0, -1);
            due.ring(x, 1 - r, -1, 0, 0, 0, 0, 0, -1);
        }
    }

    private static void yellowNotReady() {
        for (int r = 0; r < 2; r++) {
            Desk x = new Desk();
            x.push(4 * r);
            x.push(4 - 4 * r);
            x.push(4 * r + 1);
            x.run(6);
            due.ring(x, r, 4 * r, 2, 0, 0, 0, 0, 4 * r + 1);
            x.push(2);
            for (int i = 0; i < 10; i++) {
                x.run(1);
                due.is("may end", x.ring(1 - r, 5), 1);
                due.is("crossing", x.state(2), 0);
            }
            due.ring(x, r, 4 * r + 1, 1, 4, 0, 4, 0, -1);
            x.run(1);
            due.is("crossing", x.state(2), 1);
        }
    }

    private static void bothDark() {
        for (int p = 2; p < 8; p += p == 3 ? 3 : 1) {
            Desk x = new Desk();
            x.push(p);
            due.is("run(1)", x.run(1), 1);
            due.state(x, 1, 1, 0, 0, 1);
            due.ring(x, p / 4, p, 1, 0, 3, 0, 0, -1);
            due.ring(x, 1 - p / 4, -1, 0, 0, 0, 0, 0, -1);
        }
        Desk y = new Desk();
        y.push(3);
        y.push(7);
        y.push(6);
        due.is("run(1)", y.run(1), 2);
        due.ring(y, 0, 3, 1, 0, 3, 0, 0, -1);
        due.ring(y, 1, 6, 1, 0, 3, 0, 0, -1);
    }

    private static void turnsBack() {
        for (int first = 0; first < 8; first += 2) {
            Desk x = green(first + 1);
            x.push(first);
            x.run(5);
            due.ring(x, first / 4, first + 1, 2, 0, 0, 0, 0, first);
            due.is("run(6)", x.run(6), 1);
            due.ring(x, first / 4, first, 1, 0, 3, 0, 0, -1);
        }
    }

    private static void noTurningBack() {
        Desk x = new Desk();
        x.push(1);
        x.car(4, 1);
        x.run(1);
        x.push(0);
        x.mode(2, 1);
        x.car(2, 1);
        x.run(20);
        due.ring(x, 0, 1, 1, 20, 0, 20, 1, -1);
        due.state(x, 21, 0, 0, 0, 0);
        x.car(2, 0);
        x.run(1);
        due.ring(x, 0, 1, 2, 0, 0, 0, 0, 0);
    }

    private static void turnsBackWhenItMayEnd() {
        Desk x = green(1);
        x.car(1, 1);
        x.push(0);
        x.run(29);
        due.ring(x, 0, 1, 1, 29, 3, 29, 0, -1);
        x.run(1);
        due.ring(x, 0, 1, 2, 0, 0, 0, 0, 0);
    }

    private static void firstNotCalled() {
        for (int first = 0; first < 8; first += 2) {
            Desk x = green(first + 1);
            x.run(400);
            due.ring(x, first / 4, first + 1, 1, 400, 0, 0, 1, -1);
        }
    }

    private static void eachTurnsBack() {
        Desk x = new Desk();
        x.push(1);
        x.car(5, 1);
        x.run(1);
        x.push(0);
        x.push(4);
        x.run(5);
        due.ring(x, 0, 1, 2, 0, 0, 0, 0, 0);
        due.ring(x, 1, 5, 1, 5, 3, 5, 0, -1);
        Desk y = new Desk();
        y.push(1);
        y.push(5);
        y.run(1);
        y.push(0);
        y.push(4);
        y.run(5);
        due.ring(y, 0, 1, 2, 0, 0, 0, 0, 0);
        due.ring(y, 1, 5, 2, 0, 0, 0, 0, 4);
    }

    private static void slowerRing() {
        for (int r = 0; r < 2; r++) {
            int slow = 4 - 4 * r;
            Desk x = new Desk();
            x.set(slow, 3, 9);
            x.push(0);
            x.push(4);
            x.run(1);
            x.push(2);
            x.run(5);
            due.is("run(6)", x.run(6), 0);
            due.ring(x, r, -1, 0, 0, 0, 0, 0, -1);
            due.ring(x, 1 - r, slow, 2, 6, 0, 0, 0, -1);
            due.state(x, 12, 0, 1, 0, 1);
            due.is("run(4)", x.run(4), 0);
            due.ring(x, 1 - r, slow, 3, 1, 0, 0, 0, -1);
            due.state(x, 16, 0, 1, 0, 1);
            due.is("run(1)", x.run(1), 1);
            due.state(x, 17, 1, 0, 0, 1);
            due.lights(x, 0, 0, 2, 0, 0, 0, 0, 0);
        }
    }

    private static void nextThere() {
        Desk x = new Desk();
        x.push(2);
        x.push(3);
        x.push(7);
        x.push(6);
        due.is("run(1)", x.run(1), 2);
        due.lights(x, 0, 0, 2, 0, 0, 0, 2, 0);
        Desk y = new Desk();
        y.exchange(0, 1);
        y.exchange(1, 1);
        y.push(2);
        y.push(3);
        y.push(7);
        y.push(6);
        due.is("run(1)", y.run(1), 2);
        due.lights(y, 0, 0, 0, 2, 0, 0, 0, 2);
    }

    private static void nextThereSecond() {
        Desk x = new Desk();
        x.push(3);
        x.push(7);
        due.is("run(1)", x.run(1), 2);
        due.lights(x, 0, 0, 0, 2, 0, 0, 0, 2);
    }

    private static void comesAlongFirst() {
        for (int r = 0; r < 2; r++) {
            Desk x = new Desk();
            x.mode(4 * r + 2, 33);
            x.mode(4 * r + 3, 33);
            x.push(6 - 4 * r);
            due.is("run(1)", x.run(1), 2);
            due.is("comes along", x.ring(r, 0), 4 * r + 2);
            due.of(x, 4 * r + 2, 2, 0, 0, 0, 0, 1);
            Desk y = new Desk();
            y.exchange(r, 1);
            y.mode(4 * r + 2, 33);
            y.mode(4 * r + 3, 33);
            y.push(6 - 4 * r);
            due.is("run(1)", y.run(1), 2);
            due.is("comes along", y.ring(r, 0), 4 * r + 3);
        }
    }

    private static void comesAlongSecond() {
        for (int r = 0; r < 2; r++) {
            Desk x = new Desk();
            x.mode(4 * r + 3, 33);
            x.push(6 - 4 * r);
            due.is("run(1)", x.run(1), 2);
            due.is("comes along", x.ring(r, 0), 4 * r + 3);
        }
    }

    private static void calledBeforeComingAlong() {
        for (int r = 0; r < 2; r++) {
            Desk x = new Desk();
            x.mode(4 * r + 2, 33);
            x.push(4 * r + 3);
            due.is("run(1)", x.run(1), 1);
            due.is("called", x.ring(r, 0), 4 * r + 3);
        }
    }

    private static void unusedDoesNotCome() {
        for (int r = 0; r < 2; r++) {
            Desk x = new Desk();
            x.mode(4 * r + 2, 62);
            x.mode(4 * r + 3, 62);
            x.push(6 - 4 * r);
            due.is("run(1)", x.run(1), 1);
            due.ring(x, r, -1, 0, 0, 0, 0, 0, -1);
            Desk y = new Desk();
            y.mode(4 * r + 2, 62);
            y.mode(4 * r + 3, 33);
            y.push(6 - 4 * r);
            due.is("run(1)", y.run(1), 2);
            due.is("the second comes along", y.ring(r, 0), 4 * r + 3);
        }
    }

    private static void orNone() {
        Desk x = green(0);
        x.mode(2, 1);
        x.car(2, 1);
        x.run(5);
        x.car(2, 0);
        due.state(x, 6, 0, 1, 0, 1);
        due.is("run(6)", x.run(6), 0);
        due.ring(x, 0, -1, 0, 0, 0, 0, 0, -1);
        due.ring(x, 1, -1, 0, 0, 0, 0, 0, -1);
        due.state(x, 12, 1, 0, 0, 1);
        x.push(0);
        x.push(3);
        due.is("run(1)", x.run(1), 1);
        due.is("a dark ring begins on this side", x.ring(0, 0), 3);
    }

    private static void calledAtItsEnd() {
        Desk x = green(0);
        x.push(3);
        x.run(5);
        x.push(2);
        x.push(6);
        x.mode(3, 0);
        due.is("run(6)", x.run(6), 2);
        due.lights(x, 0, 0, 2, 0, 0, 0, 2, 0);
    }

    private static void greenBegins() {
        for (int p = 0; p < 8; p++) {
            Desk x = new Desk();
            x.set(p, 1, 7);
            x.push(p);
            x.push(p ^ 1);
            if (p % 2 == 1) {
                x.exchange(p / 4, p % 4 / 2);
            }
            due.is("run(1)", x.run(1), 1);
            due.ring(x, p / 4, p, 1, 0, 7, 0, 0, -1);
            due.of(x, p, 2, 0, 0, 1, 1, 1);
        }
    }

    private static void backToSide0() {
        Desk x = green(2);
        x.mode(5, 33);
        x.push(0);
        x.run(5);
        due.state(x, 6, 1, 1, 0, 2);
        due.is("run(6)", x.run(6), 2);
        due.state(x, 12, 0, 0, 0, 2);
        due.lights(x, 2, 0, 0, 0, 0, 2, 0, 0);
    }
}
