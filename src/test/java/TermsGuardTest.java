/**
 * Terms: the LIGHTS, and what THE GUARD sees "at the end of each tick that is not flashing". Told by
 * promises 8, 10, 12.
 */
final class TermsGuardTest {
    private static final Due due = new Due("promise 12, state: the guard");

    public static void main(String[] args) {
        due.test("1: each pair, in the way or not, in one look and in two", TermsGuardTest::eachPair);
        due.test("1: both yellow, and one yellow", TermsGuardTest::yellowIsInTheWay);
        due.test("1: a red one is not in the way", TermsGuardTest::redIsNot);
        due.test("1: any two, not the same two", TermsGuardTest::anyTwo);
        due.test("1: once, and once more after a look between", TermsGuardTest::onceIsForgiven);
        due.test("1: stuck lamps against a green as told", TermsGuardTest::againstGreen);
        due.test("2: red that was green", TermsGuardTest::greenToRed);
        due.test("2: green one look before the last does not count", TermsGuardTest::greenBeforeTheLast);
        due.test("2: green that is not stuck any more", TermsGuardTest::greenNotStuckAnyMore);
        due.test("3: red after 1, 2, 3 and 4 looks at yellow", TermsGuardTest::shortYellow);
        due.test("3: looks at yellow one behind the other, a green between", TermsGuardTest::greenBetween);
        due.test("3: looks at yellow one behind the other, a red between", TermsGuardTest::redBetween);
        due.test("3: green after yellow is nothing", TermsGuardTest::greenAfterYellow);
        due.test("3: each movement's looks by themselves", TermsGuardTest::looksOfEach);
        due.test("the least: 1 before 2", TermsGuardTest::oneBeforeTwo);
        due.test("the least: 1 before 3", TermsGuardTest::oneBeforeThree);
        due.test("the least: 2 before 3, in both orders", TermsGuardTest::twoBeforeThree);
        due.test("it looks at the end of a tick, not between", TermsGuardTest::looksAtTheEnd);
        due.test("it does not look while flashing", TermsGuardTest::looksNotWhileFlashing);
        due.test("all are flashing from then on", TermsGuardTest::allFlash);
        due.test("it looks at the lights alone: no fault by what is told", TermsGuardTest::lightsAlone);
        due.test("lights as told never set it to flashing", TermsGuardTest::neverByItself);
        due.end();
    }

    private static void eachPair() {
        for (int p = 0; p < 8; p++) {
            for (int q = 0; q < 8; q++) {
                Desk x = new Desk();
                x.stick(p, 2);
                x.stick(q, 2);
                boolean sameRing = p < 4 == q < 4;
                boolean sameSide = (p & 2) == (q & 2);
                boolean inWay = p != q && sameRing || !sameSide;
                x.run(1);
                due.is("first look at " + p + " and " + q, x.state(3), 0);
                x.run(1);
                due.is("second look at " + p + " and " + q, x.state(3), inWay ? 1 : 0);
                x.run(50);
                due.is("later", x.state(3), inWay ? 1 : 0);
            }
        }
    }

    private static void yellowIsInTheWay() {
        for (int light = 1; light <= 2; light++) {
            Desk x = new Desk();
            x.stick(3, 1);
            x.stick(4, light);
            x.run(1);
            due.is("first look", x.state(3), 0);
            x.run(1);
            due.is("second look", x.state(3), 1);
        }
    }

    private static void redIsNot() {
        Desk x = new Desk();
        x.stick(3, 2);
        x.stick(4, 0);
        x.stick(2, 0);
        x.run(50);
        due.is("state(3)", x.state(3), 0);
    }

    private static void anyTwo() {
        Desk x = new Desk();
        x.stick(0, 2);
        x.stick(1, 2);
        x.stick(4, 1);
        x.run(1);
        x.stick(0, 1);
        x.stick(1, 1);
        x.stick(6, 2);
        x.run(1);
        due.is("others beside them", x.state(3), 1);
        Desk y = new Desk();
        y.stick(0, 1);
        y.run(2);
        y.stick(1, 1);
        y.run(1);
        y.stick(0, 0);
        y.stick(6, 1);
        y.run(1);
        due.is("0 and 1, then 1 and 6", y.state(3), 1);
    }

    private static void onceIsForgiven() {
        Desk x = new Desk();
        x.stick(0, 1);
        x.run(3);
        x.stick(1, 2);
        x.run(1);
        due.is("once", x.state(3), 0);
        x.stick(0, 0);
        x.run(1);
        due.is("a look between", x.state(3), 0);
        x.stick(0, 1);
        x.run(1);
        due.is("once more", x.state(3), 0);
        x.run(1);
        due.is("twice, one behind the other", x.state(3), 1);
    }

    private static void againstGreen() {
        for (int p = 0; p < 8; p++) {
            Desk x = new Desk();
            x.push(p);
            x.stick(p ^ 2, 1);
            x.run(1);
            due.is("first look", x.state(3), 0);
            x.run(1);
            due.is("second look", x.state(3), 1);
        }
    }

    private static void greenToRed() {
        for (int p = 0; p < 8; p++) {
            Desk x = new Desk();
            x.push(p);
            x.run(1);
            x.stick(p, 0);
            due.is("light", x.of(p, 0), 0);
            due.is("not looked yet", x.state(3), 0);
            x.run(1);
            due.is("looked", x.state(3), 2);
        }
    }

    private static void greenBeforeTheLast() {
        Desk x = new Desk();
        x.stick(0, 2);
        x.run(1);
        x.stick(0, 1);
        x.run(3);
        x.stick(0, 0);
        x.run(1);
        due.is("three looks at yellow between", x.state(3), 0);
    }

    private static void greenNotStuckAnyMore() {
        Desk x = new Desk();
        x.stick(6, 2);
        x.run(1);
        x.stick(6, -1);
        x.run(1);
        due.is("red as told", x.state(3), 2);
    }

    private static void shortYellow() {
        for (int p = 0; p < 8; p++) {
            for (int looks = 1; looks <= 4; looks++) {
                Desk x = new Desk();
                x.stick(p, 1);
                x.run(looks);
                due.is("yellow", x.state(3), 0);
                x.stick(p, 0);
                x.run(1);
                due.is("red after " + looks, x.state(3), looks < 3 ? 3 : 0);
            }
        }
    }

    private static void greenBetween() {
        for (int looks = 2; looks <= 3; looks++) {
            Desk x = new Desk();
            x.stick(5, 1);
            x.run(2);
            x.stick(5, 2);
            x.run(1);
            x.stick(5, 1);
            x.run(looks);
            due.is("yellow", x.state(3), 0);
            x.stick(5, 0);
            x.run(1);
            due.is("red after 2, a green and " + looks, x.state(3), looks == 2 ? 3 : 0);
        }
    }

    private static void redBetween() {
        for (int looks = 2; looks <= 3; looks++) {
            Desk x = new Desk();
            x.stick(5, 1);
            x.run(3);
            x.stick(5, 0);
            x.run(1);
            x.stick(5, 1);
            x.run(looks);
            due.is("yellow", x.state(3), 0);
            x.stick(5, 0);
            x.run(1);
            due.is("red after 3, a red and " + looks, x.state(3), looks == 2 ? 3 : 0);
        }
    }

    private static void greenAfterYellow() {
        Desk x = new Desk();
        x.stick(5, 1);
        x.run(1);
        x.stick(5, 2);
        x.run(1);
        due.is("green", x.state(3), 0);
        x.stick(5, 1);
        x.run(3);
        x.stick(5, 0);
        x.run(1);
        due.is("red", x.state(3), 0);
    }

    private static void looksOfEach() {
        Desk x = new Desk();
        x.stick(0, 1);
        x.run(2);
        x.stick(4, 1);
        x.run(1);
        x.stick(0, 0);
        x.run(1);
        due.is("0 was yellow for 3", x.state(3), 0);
        x.stick(4, 0);
        x.run(1);
        due.is("4 was yellow for 2", x.state(3), 3);
    }

    private static void oneBeforeTwo() {
        Desk x = new Desk();
        x.stick(0, 2);
        x.stick(1, 2);
        x.stick(2, 2);
        x.run(1);
        x.stick(0, 0);
        x.run(1);
        due.is("state(3)", x.state(3), 1);
    }

    private static void oneBeforeThree() {
        Desk x = new Desk();
        x.stick(0, 1);
        x.stick(1, 2);
        x.stick(2, 2);
        x.run(1);
        x.stick(0, 0);
        x.run(1);
        due.is("state(3)", x.state(3), 1);
    }

    private static void twoBeforeThree() {
        for (int yellow = 0; yellow <= 4; yellow += 4) {
            Desk x = new Desk();
            x.stick(yellow, 1);
            x.stick(4 - yellow, 2);
            x.run(1);
            x.stick(0, 0);
            x.stick(4, 0);
            x.run(1);
            due.is("state(3)", x.state(3), 2);
        }
    }

    private static void looksAtTheEnd() {
        Desk x = new Desk();
        x.stick(0, 2);
        x.stick(1, 2);
        x.run(0);
        x.stick(0, -1);
        x.stick(1, -1);
        x.run(1);
        due.is("stuck between two ticks alone", x.state(3), 0);
        x.push(0);
        x.run(1);
        x.stick(0, 0);
        x.stick(0, -1);
        x.run(1);
        due.is("red between two ticks alone", x.state(3), 0);
    }

    private static void looksNotWhileFlashing() {
        Desk x = new Desk();
        x.stick(0, 1);
        x.run(1);
        x.stick(0, 0);
        x.run(1);
        due.is("flashing", x.state(3), 3);
        x.stick(0, 2);
        x.stick(1, 2);
        x.run(5);
        due.is("what set it to flashing", x.state(3), 3);
        x.restart();
        x.run(1);
        due.is("seen once", x.state(3), 0);
        x.run(1);
        due.is("seen twice", x.state(3), 1);
    }

    private static void allFlash() {
        Desk x = new Desk();
        x.push(0);
        x.stick(6, 1);
        x.run(2);
        due.lights(x, 3, 3, 3, 3, 3, 3, 3, 3);
        x.stick(6, -1);
        x.stick(3, 2);
        x.run(100);
        due.lights(x, 3, 3, 3, 3, 3, 3, 3, 3);
        due.is("what set it to flashing", x.state(3), 1);
    }

    private static void lightsAlone() {
        Desk x = new Desk();
        x.push(0);
        x.run(1);
        x.stick(0, 1);
        x.push(1);
        x.run(11);
        due.is("0 is red behind, but shows yellow; 1 is green", x.state(3), 0);
        due.lights(x, 1, 2, 0, 0, 0, 0, 0, 0);
        Desk y = new Desk();
        y.stick(0, 0);
        y.push(0);
        y.push(2);
        y.run(30);
        due.is("0 was green as told, but showed red", y.state(3), 0);
    }

    private static void neverByItself() {
        Desk x = new Desk();
        for (int p = 0; p < 8; p++) {
            x.mode(p, 63);
            x.set(p, 0, 1);
            x.set(p, 2, 1 + p);
            x.set(p, 3, 3);
            x.set(p, 4, 0);
        }
        for (int i = 0; i < 400; i++) {
            x.run(500);
        }
        due.state(x, 200000, x.state(1), x.state(2), 0);
    }
}
