/** Promise 9: "Restarts: 1; 0, and nothing is done, when it is not flashing." */
final class P09RestartTest {
    private static final Due due = new Due("promise 9, restart");

    public static void main(String[] args) {
        due.test("not flashing: nothing is done", P09RestartTest::notFlashing);
        due.test("not flashing any more: a second one does nothing", P09RestartTest::aSecondOne);
        due.test("not flashing yet: the guard has not looked", P09RestartTest::notFlashingYet);
        due.test("flashing by each of 1 .. 3: it ends", P09RestartTest::endsEachFlashing);
        due.test("both rings are dark", P09RestartTest::bothRingsAreDark);
        due.test("no next", P09RestartTest::noNext);
        due.test("no crossing", P09RestartTest::noCrossing);
        due.test("side 0", P09RestartTest::side0);
        due.test("nothing walks", P09RestartTest::nothingWalks);
        due.test("nothing clears", P09RestartTest::nothingClears);
        due.test("the guard has seen no two in the way", P09RestartTest::guardSawNoWay);
        due.test("the guard has seen no green", P09RestartTest::guardSawNoGreen);
        due.test("the guard has seen no yellow", P09RestartTest::guardSawNoYellow);
        due.test("the guard counts yellow looks anew", P09RestartTest::guardCountsAnew);
        due.test("all else stays: answers", P09RestartTest::answersStay);
        due.test("all else stays: times, modes, stuck lamps", P09RestartTest::settingsStay);
        due.test("all else stays: who is first", P09RestartTest::orderStays);
        due.end();
    }

    private static void notFlashing() {
        for (Scene scene : Scene.ALL) {
            if (scene != Scene.FLASHING) {
                scene.nothingIsDone(due, "restart()", 0, x -> x.restart());
            }
        }
    }

    private static void aSecondOne() {
        Desk x = Scene.FLASHING.desk();
        due.is("restart()", x.restart(), 1);
        due.is("restart()", x.restart(), 0);
        x.run(1);
        due.is("ring 1 is green again", x.ring(1, 1), 1);
        int[] want = Answers.all(x);
        due.is("restart()", x.restart(), 0);
        Answers.same(due, "", Answers.all(x), want);
    }

    private static void notFlashingYet() {
        Desk x = new Desk();
        x.push(0);
        x.run(1);
        x.stick(0, 0);
        due.is("restart()", x.restart(), 0);
        due.ring(x, 0, 0, 1, 0, 3, 0, 0, -1);
        x.run(1);
        due.is("the guard still knows the green", x.state(3), 2);
        due.is("restart()", x.restart(), 1);
    }

    private static void endsEachFlashing() {
        for (int fault = 1; fault <= 3; fault++) {
            Desk x = new Desk();
            if (fault == 1) {
                x.stick(0, 2);
                x.stick(1, 2);
                x.run(2);
            } else {
                x.stick(0, fault == 2 ? 2 : 1);
                x.run(1);
                x.stick(0, 0);
                x.run(1);
            }
            due.state(x, 2, 0, 0, fault, 0);
            due.lights(x, 3, 3, 3, 3, 3, 3, 3, 3);
            due.is("restart()", x.restart(), 1);
            due.state(x, 2, 0, 0, 0, 0);
            due.lights(x, fault == 1 ? 2 : 0, fault == 1 ? 2 : 0, 0, 0, 0, 0, 0, 0);
        }
    }

    /** Red lamps where green or yellow ones were seen set all to flashing in the next tick. */
    private static void makeFlash(Desk x, int p) {
        x.stick(p, 0);
        x.run(1);
        x.stick(p, -1);
        due.is("flashing", x.of(p, 0), 3);
    }

    private static void bothRingsAreDark() {
        Desk x = new Desk();
        x.car(0, 1);
        x.car(4, 1);
        x.run(3);
        makeFlash(x, 4);
        due.ring(x, 0, 0, 1, 3, 3, 0, 0, -1);
        due.ring(x, 1, 4, 1, 3, 3, 0, 0, -1);
        due.is("restart()", x.restart(), 1);
        due.ring(x, 0, -1, 0, 0, 0, 0, 0, -1);
        due.ring(x, 1, -1, 0, 0, 0, 0, 0, -1);
        due.lights(x, 0, 0, 0, 0, 0, 0, 0, 0);
        due.is("run(1)", x.run(1), 2);
        due.ring(x, 0, 0, 1, 0, 3, 0, 0, -1);
        due.ring(x, 1, 4, 1, 0, 3, 0, 0, -1);
    }

    private static void noNext() {
        Desk x = new Desk();
        x.push(0);
        x.push(1);
        x.run(6);
        makeFlash(x, 0);
        due.ring(x, 0, 0, 2, 1, 0, 0, 0, 1);
        due.is("restart()", x.restart(), 1);
        due.ring(x, 0, -1, 0, 0, 0, 0, 0, -1);
        x.mode(1, 0);
        due.is("run(9)", x.run(9), 0);
    }

    private static void noCrossing() {
        Desk x = new Desk();
        x.push(0);
        x.run(1);
        x.push(2);
        x.run(5);
        due.state(x, 6, 0, 1, 0, 1);
        makeFlash(x, 0);
        due.state(x, 7, 0, 1, 3, 1);
        due.is("restart()", x.restart(), 1);
        due.state(x, 7, 0, 0, 0, 1);
        due.is("run(1)", x.run(1), 1);
        due.state(x, 8, 1, 0, 0, 2);
    }

    private static void side0() {
        Desk x = new Desk();
        x.push(2);
        x.run(4);
        makeFlash(x, 2);
        due.state(x, 5, 1, 0, 2, 1);
        due.is("restart()", x.restart(), 1);
        due.state(x, 5, 0, 0, 0, 1);
        x.push(0);
        x.push(2);
        x.run(1);
        due.is("side 0 is first", x.ring(0, 0), 0);
    }

    private static Desk walker() {
        Desk x = new Desk();
        x.set(0, 5, 3);
        x.set(0, 6, 60);
        x.set(0, 1, 0);
        x.set(0, 0, 1);
        x.push(0);
        x.run(1);
        x.car(0, 1);
        return x;
    }

    private static void nothingWalksAgain(Desk x) {
        due.is("restart()", x.restart(), 1);
        due.is("walks", x.of(0, 1), 0);
        due.is("run(1)", x.run(1), 1);
        due.of(x, 0, 2, 0);
        x.run(1);
        due.ring(x, 0, 0, 1, 1, 0, 0, 1, -1);
    }

    private static void nothingWalks() {
        Desk x = walker();
        makeFlash(x, 0);
        due.is("walks", x.of(0, 1), 1);
        nothingWalksAgain(x);
        Desk y = walker();
        makeFlash(y, 0);
        y.restart();
        y.push(4);
        y.run(1);
        due.is("the other ring's green does not", y.of(4, 1), 0);
    }

    private static void nothingClears() {
        Desk x = walker();
        x.run(5);
        makeFlash(x, 0);
        due.is("clears", x.of(0, 1), 2);
        nothingWalksAgain(x);
    }

    private static void guardSawNoWay() {
        Desk x = new Desk();
        x.stick(0, 2);
        x.stick(1, 2);
        x.run(2);
        due.is("flashing", x.state(3), 1);
        due.is("restart()", x.restart(), 1);
        x.run(1);
        due.is("in the way, in this tick alone", x.state(3), 0);
        x.run(1);
        due.is("in the last one too", x.state(3), 1);
    }

    private static void guardSawNoGreen() {
        Desk x = new Desk();
        x.stick(0, 2);
        x.stick(1, 2);
        x.run(2);
        x.stick(0, 0);
        x.stick(1, 0);
        due.is("restart()", x.restart(), 1);
        x.run(1);
        due.is("red, and never seen green", x.state(3), 0);
    }

    private static void guardSawNoYellow() {
        Desk x = new Desk();
        x.stick(0, 1);
        x.stick(1, 1);
        x.run(2);
        x.stick(0, 0);
        x.stick(1, 0);
        due.is("restart()", x.restart(), 1);
        x.run(1);
        due.is("red, and never seen yellow", x.state(3), 0);
    }

    private static void guardCountsAnew() {
        for (int looks = 1; looks <= 3; looks++) {
            Desk x = new Desk();
            x.stick(0, 1);
            x.run(2);
            x.stick(1, 1);
            x.run(2);
            due.is("flashing", x.state(3), 1);
            x.stick(1, 0);
            due.is("restart()", x.restart(), 1);
            x.run(looks);
            x.stick(0, 0);
            x.run(1);
            due.is("red after " + looks + " looks", x.state(3), looks < 3 ? 3 : 0);
        }
    }

    private static void answersStay() {
        Desk x = Scene.FLASHING.desk();
        x.car(6, 1);
        x.run(3);
        x.push(2);
        due.of(x, 0, 3, 2, 0, 0, 1, 1, 0, 0, 0);
        due.of(x, 2, 3, 0, 1, 0, 0, 0, 0, 1, 0);
        due.of(x, 3, 3, 0, 1, 3, 3, 0, 0, 0, 1);
        due.of(x, 4, 3, 1, 0, 0, 1, 1, 1, 0, 0);
        due.of(x, 5, 3, 0, 1, 3, 3, 0, 0, 1, 0);
        due.of(x, 6, 3, 0, 1, 0, 0, 0, 1, 0, 1);
        due.is("restart()", x.restart(), 1);
        due.of(x, 0, 0, 0, 0, 0, 1, 1, 0, 0, 0);
        due.of(x, 2, 0, 0, 1, 0, 0, 0, 0, 1, 0);
        due.of(x, 3, 0, 0, 1, 3, 3, 0, 0, 0, 1);
        due.of(x, 4, 0, 0, 1, 0, 1, 1, 1, 0, 0);
        due.of(x, 5, 0, 0, 1, 3, 3, 0, 0, 1, 0);
        due.of(x, 6, 0, 0, 1, 0, 0, 0, 1, 0, 1);
        due.state(x, 8, 0, 0, 0, 0);
    }

    private static void settingsStay() {
        Desk x = new Desk();
        x.set(1, 5, 2);
        x.set(1, 6, 1);
        x.set(1, 1, 9);
        x.exchange(0, 0);
        x.mode(1, 17);
        x.mode(0, 5);
        x.stick(4, 1);
        x.stick(7, 2);
        x.run(1);
        x.stick(7, 0);
        x.run(1);
        due.is("flashing", x.state(3), 2);
        due.is("restart()", x.restart(), 1);
        due.is("4 is stuck", x.of(4, 0), 1);
        x.run(1);
        due.ring(x, 0, 1, 1, 0, 9, 0, 0, -1);
        due.of(x, 1, 2, 1);
        x.run(2);
        due.of(x, 1, 2, 2);
        x.run(7);
        due.ring(x, 0, 1, 2, 0, 0, 0, 0, 0);
    }

    private static void orderStays() {
        for (int first = 0; first < 8; first += 2) {
            Desk x = new Desk();
            due.is("exchange", x.exchange(first / 4, first % 4 / 2), 1);
            x.stick(0, 2);
            x.run(1);
            makeFlash(x, 0);
            due.is("restart()", x.restart(), 1);
            for (int p = first % 4; p < 8; p += p % 2 == 0 ? 1 : 3) {
                x.push(p);
            }
            due.is("run(1)", x.run(1), 2);
            due.is("exchanged", x.ring(first / 4, 0), first + 1);
            due.is("not exchanged", x.ring(1 - first / 4, 0), first ^ 4);
        }
    }
}
