/** Promise 1: "All at first." */
final class P01NewObjectTest {
    private static final Due due = new Due("promise 1, a new object");

    public static void main(String[] args) {
        due.test("NONE is -1", () -> due.is("NONE", CrossingDesk.NONE, -1));
        due.test("every answer at first", P01NewObjectTest::everyAnswerAtFirst);
        due.test("least green is 5 at first", P01NewObjectTest::leastGreenIs5);
        due.test("gap is 3 at first", P01NewObjectTest::gapIs3);
        due.test("most green is 30 at first", P01NewObjectTest::mostGreenIs30);
        due.test("yellow is 4 at first", P01NewObjectTest::yellowIs4);
        due.test("red behind is 2 at first", P01NewObjectTest::redBehindIs2);
        due.test("walk is 0 at first", P01NewObjectTest::walkIs0);
        due.test("clearing is 0 at first", P01NewObjectTest::clearingIs0);
        due.test("modes are 3 at first: used", P01NewObjectTest::usedAtFirst);
        due.test("modes are 3 at first: calls are remembered", P01NewObjectTest::callsAreRememberedAtFirst);
        due.test("modes are 3 at first: not called always", P01NewObjectTest::notCalledAlwaysAtFirst);
        due.test("modes are 3 at first: does not come along", P01NewObjectTest::doesNotComeAlongAtFirst);
        due.test("the lesser one is first at first", P01NewObjectTest::theLesserOneIsFirst);
        due.test("nothing is stuck at first", P01NewObjectTest::nothingIsStuck);
        due.test("the guard has seen nothing at first", P01NewObjectTest::theGuardHasSeenNothing);
        due.test("an object has nothing of another one", P01NewObjectTest::nothingOfAnotherOne);
        due.test("the 512th call is answered as any other", P01NewObjectTest::the512thCall);
        due.end();
    }

    private static Desk green(int p) {
        Desk x = new Desk();
        x.push(p);
        x.run(1);
        return x;
    }

    private static void everyAnswerAtFirst() {
        Desk x = new Desk();
        due.state(x, 0, 0, 0, 0, 0);
        for (int r = 0; r < 2; r++) {
            due.ring(x, r, -1, 0, 0, 0, 0, 0, -1);
        }
        for (int p = 0; p < 8; p++) {
            due.of(x, p, 0, 0, 0, 0, 0, 0, 0, 0, 0);
        }
        due.is("check()", x.check(), 1);
    }

    private static void leastGreenIs5() {
        for (int p = 0; p < 8; p++) {
            Desk x = green(p);
            x.run(4);
            due.ring(x, p / 4, p, 1, 4, 0, 0, 0, -1);
            x.run(1);
            due.ring(x, p / 4, p, 1, 5, 0, 0, 1, -1);
        }
    }

    private static void gapIs3() {
        for (int p = 0; p < 8; p++) {
            Desk x = green(p);
            due.is("left", x.ring(p / 4, 3), 3);
        }
    }

    private static void mostGreenIs30() {
        for (int p = 0; p < 8; p++) {
            Desk x = green(p);
            x.car(p, 1);
            x.push(p ^ 2);
            x.run(29);
            due.ring(x, p / 4, p, 1, 29, 3, 29, 0, -1);
            x.run(1);
            due.ring(x, p / 4, p, 2, 0, 0, 0, 0, -1);
        }
    }

    private static Desk yellow(int p) {
        Desk x = green(p);
        x.push(p ^ 2);
        x.run(5);
        due.ring(x, p / 4, p, 2, 0, 0, 0, 0, -1);
        return x;
    }

    private static void yellowIs4() {
        for (int p = 0; p < 8; p++) {
            Desk x = yellow(p);
            x.run(3);
            due.ring(x, p / 4, p, 2, 3, 0, 0, 0, -1);
            x.run(1);
            due.ring(x, p / 4, p, 3, 0, 0, 0, 0, -1);
        }
    }

    private static void redBehindIs2() {
        for (int p = 0; p < 8; p++) {
            Desk x = yellow(p);
            x.run(5);
            due.ring(x, p / 4, p, 3, 1, 0, 0, 0, -1);
            x.run(1);
            due.ring(x, p / 4, p ^ 2, 1, 0, 3, 0, 0, -1);
        }
    }

    private static void walkIs0() {
        for (int p = 0; p < 8; p++) {
            due.is("walks", green(p).of(p, 1), 0);
        }
    }

    private static void clearingIs0() {
        for (int p = 0; p < 8; p++) {
            Desk x = new Desk();
            x.set(p, 5, 1);
            x.push(p);
            x.run(1);
            due.is("walks", x.of(p, 1), 1);
            x.run(1);
            due.is("neither walks nor clears", x.of(p, 1), 0);
        }
    }

    private static void usedAtFirst() {
        for (int p = 0; p < 8; p++) {
            Desk x = new Desk();
            x.push(p);
            due.is("called", x.of(p, 2), 1);
        }
    }

    private static void callsAreRememberedAtFirst() {
        for (int p = 0; p < 8; p++) {
            Desk x = new Desk();
            x.car(p, 1);
            x.car(p, 0);
            due.of(x, p, 0, 0, 1, 0, 0, 0, 0, 0, 1);
        }
    }

    private static void notCalledAlwaysAtFirst() {
        Desk x = new Desk();
        due.is("run(500)", x.run(500), 0);
        for (int p = 0; p < 8; p++) {
            due.of(x, p, 0, 0, 0, 0, 0, 0, 0, 0, 0);
        }
    }

    private static void doesNotComeAlongAtFirst() {
        for (int p = 0; p < 8; p++) {
            Desk x = new Desk();
            x.push(p ^ 2);
            x.run(12);
            x.push(p);
            x.run(30);
            due.is("the other ring is dark", x.ring(1 - p / 4, 0), -1);
        }
    }

    private static void theLesserOneIsFirst() {
        for (int p = 0; p < 8; p += 2) {
            Desk x = new Desk();
            x.push(p);
            x.push(p + 1);
            x.run(1);
            due.is("green", x.ring(p / 4, 0), p);
        }
    }

    private static void nothingIsStuck() {
        for (int p = 0; p < 8; p++) {
            Desk x = new Desk();
            due.is("red", x.of(p, 0), 0);
            x.push(p);
            x.run(1);
            due.is("green", x.of(p, 0), 2);
            x.push(p ^ 2);
            x.run(5);
            due.is("yellow", x.of(p, 0), 1);
        }
    }

    private static void theGuardHasSeenNothing() {
        for (int p = 0; p < 8; p++) {
            Desk x = new Desk();
            x.stick(p, 2);
            x.stick(p ^ 2, 2);
            x.run(1);
            due.is("in the way in one look", x.state(3), 0);
            Desk y = new Desk();
            y.stick(p, 0);
            y.run(1);
            due.is("red in the first look", y.state(3), 0);
        }
    }

    private static void nothingOfAnotherOne() {
        Desk before = new Desk();
        Desk used = new Desk();
        for (int p = 0; p < 8; p++) {
            for (int time = 0; time < 7; time++) {
                used.set(p, time, 9);
            }
            used.mode(p, 63);
            used.car(p, 1);
            used.push(p);
            used.stick(p, 2);
        }
        used.exchange(0, 0);
        used.exchange(1, 1);
        used.run(500);
        Desk after = new Desk();
        Answers.same(due, "made before: ", Answers.all(before), Answers.all(after));
        due.state(after, 0, 0, 0, 0, 0);
        for (Desk x : new Desk[] {before, after}) {
            x.push(0);
            x.push(1);
            x.run(1);
            due.ring(x, 0, 0, 1, 0, 3, 0, 0, -1);
            x.run(5);
            due.ring(x, 0, 0, 2, 0, 0, 0, 0, 1);
            x.run(6);
            due.ring(x, 0, 1, 1, 0, 3, 0, 0, -1);
        }
    }

    private static void the512thCall() {
        Desk x = new Desk();
        for (int p = 0; p < 8; p++) {
            x.mode(p, 63);
        }
        int greens = 0;
        while (x.callsLeft() > 10) {
            greens += x.run(500);
        }
        int counted = 0;
        for (int p = 0; p < 8; p++) {
            counted += x.of(p, 5);
        }
        due.is("greens", counted, greens);
        due.is("flashing", x.state(3), 0);
        due.is("calls left", x.callsLeft(), 1);
        due.is("time, in the 512th call", x.state(0), 494 * 500);
    }
}
