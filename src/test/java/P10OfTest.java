/**
 * Promise 10: "The light of a movement (what 0), whether it walks (1 ..) .. a call is remembered (8);
 * NONE for others."
 */
final class P10OfTest {
    private static final Due due = new Due("promise 10, of");

    public static void main(String[] args) {
        due.test("movements 0 and 7, what 0 and 8 are the last ones", P10OfTest::theLastOnes);
        due.test("no such movement: -1", () -> noSuchMovement(-1));
        due.test("no such movement: 8", () -> noSuchMovement(8));
        due.test("no such movement: the lowest int", () -> noSuchMovement(Integer.MIN_VALUE));
        due.test("no such movement: the highest int", () -> noSuchMovement(Integer.MAX_VALUE));
        due.test("no such what: -1", () -> noSuchWhat(-1));
        due.test("no such what: 9", () -> noSuchWhat(9));
        due.test("no such what: the lowest int", () -> noSuchWhat(Integer.MIN_VALUE));
        due.test("no such what: the highest int", () -> noSuchWhat(Integer.MAX_VALUE));
        due.test("neither movement nor what", P10OfTest::neither);
        due.test("asking changes nothing", P10OfTest::askingChangesNothing);
        due.test("what 0: red, yellow, green, flashing", P10OfTest::lights);
        due.test("what 0: red behind is red", P10OfTest::redBehindIsRed);
        due.test("what 1: walks, clears, neither", P10OfTest::walks);
        due.test("what 2: called or not", P10OfTest::called);
        due.test("what 3 and 4: waited, and at most", P10OfTest::waited);
        due.test("what 5: greens it had", P10OfTest::greens);
        due.test("what 6, 7 and 8: car, walkers, remembered", P10OfTest::carWalkersRemembered);
        due.test("each movement has its own answers", P10OfTest::eachItsOwn);
        due.end();
    }

    private static void theLastOnes() {
        for (int p : new int[] {0, 7}) {
            Desk x = new Desk();
            x.car(p, 1);
            due.is("of(" + p + ", 8)", x.of(p, 8), 1);
            x.run(1);
            due.is("of(" + p + ", 0)", x.of(p, 0), 2);
        }
    }

    private static void noSuchMovement(int p) {
        for (int what = 0; what < 9; what++) {
            int each = what;
            Scene.nothingIsDoneAnywhere(due, "of(" + p + ", " + what + ")", -1, x -> x.of(p, each));
        }
    }

    private static void noSuchWhat(int what) {
        for (int p = 0; p < 8; p++) {
            int each = p;
            Scene.nothingIsDoneAnywhere(due, "of(" + p + ", " + what + ")", -1, x -> x.of(each, what));
        }
    }

    private static void neither() {
        for (int p : new int[] {-1, 8}) {
            for (int what : new int[] {-1, 9}) {
                due.is("of(" + p + ", " + what + ")", new Desk().of(p, what), -1);
            }
        }
    }

    private static void askingChangesNothing() {
        for (Scene scene : Scene.ALL) {
            for (int p = 0; p < 8; p += 7) {
                for (int what = 0; what < 9; what++) {
                    int movement = p;
                    int each = what;
                    int answer = scene.desk().of(p, what);
                    scene.nothingIsDone(due, "of(" + p + ", " + what + ")", answer, x -> x.of(movement, each));
                }
            }
        }
    }

    private static void lights() {
        for (int p = 0; p < 8; p++) {
            Desk x = new Desk();
            due.is("red", x.of(p, 0), 0);
            x.push(p);
            x.run(1);
            due.is("green", x.of(p, 0), 2);
            x.push(p ^ 2);
            x.run(5);
            due.is("yellow", x.of(p, 0), 1);
            x.stick(p, 0);
            x.run(1);
            due.lights(x, 3, 3, 3, 3, 3, 3, 3, 3);
        }
    }

    private static void redBehindIsRed() {
        for (int p = 0; p < 8; p++) {
            Desk x = new Desk();
            x.push(p);
            x.run(1);
            x.push(p ^ 2);
            x.run(9);
            due.is("how the ring is", x.ring(p / 4, 1), 3);
            due.is("light", x.of(p, 0), 0);
        }
    }

    private static void walks() {
        for (int p = 0; p < 8; p++) {
            Desk x = new Desk();
            x.set(p, 5, 1);
            x.set(p, 6, 1);
            x.push(p);
            due.is("red", x.of(p, 1), 0);
            x.run(1);
            due.is("walks", x.of(p, 1), 1);
            due.is("its neighbour does not", x.of(p ^ 1, 1), 0);
            due.is("nor the other ring's", x.of(p ^ 4, 1), 0);
            x.run(1);
            due.is("clears", x.of(p, 1), 2);
            due.is("its neighbour does not", x.of(p ^ 1, 1), 0);
            x.run(1);
            due.is("neither", x.of(p, 1), 0);
        }
    }

    private static void called() {
        for (int p = 0; p < 8; p++) {
            Desk x = new Desk();
            due.is("not called", x.of(p, 2), 0);
            x.push(p);
            due.is("called", x.of(p, 2), 1);
            x.run(1);
            due.is("green", x.of(p, 2), 0);
        }
    }

    private static void waited() {
        Desk x = new Desk();
        x.push(0);
        x.run(1);
        due.of(x, 0, 2, 0, 0, 1, 1, 1);
        x.car(2, 1);
        due.of(x, 2, 0, 0, 1, 0, 0, 0);
        x.run(1);
        due.of(x, 2, 0, 0, 1, 1, 1, 0);
        x.run(10);
        due.of(x, 2, 2, 0, 0, 11, 11, 1);
        x.run(1);
        due.of(x, 2, 2, 0, 0, 0, 11, 1);
        x.push(0);
        x.run(3);
        due.of(x, 0, 0, 0, 1, 3, 3, 1);
    }

    private static void greens() {
        for (int p = 0; p < 8; p++) {
            Desk x = new Desk();
            x.mode(p, 5);
            x.mode(p ^ 1, 5);
            due.is("greens", x.of(p, 5), 0);
            int greens = x.run(1 + 11 * 5);
            due.is("greens of both", greens, 6);
            due.is("greens of one", x.of(p, 5), 3);
            due.is("greens of the other", x.of(p ^ 1, 5), 3);
        }
    }

    private static void carWalkersRemembered() {
        for (int p = 0; p < 8; p++) {
            Desk x = new Desk();
            due.of(x, p, 0, 0, 0, 0, 0, 0, 0, 0, 0);
            x.push(p);
            due.of(x, p, 0, 0, 1, 0, 0, 0, 0, 1, 0);
            x.car(p, 1);
            due.of(x, p, 0, 0, 1, 0, 0, 0, 1, 1, 1);
            x.car(p, 0);
            due.of(x, p, 0, 0, 1, 0, 0, 0, 0, 1, 1);
            x.run(1);
            due.of(x, p, 2, 0, 0, 1, 1, 1, 0, 0, 0);
        }
    }

    private static void eachItsOwn() {
        for (int p = 0; p < 8; p++) {
            Desk x = new Desk();
            x.car(p, 1);
            x.push(p);
            for (int q = 0; q < 8; q++) {
                int own = p == q ? 1 : 0;
                due.of(x, q, 0, 0, own, 0, 0, 0, own, own, own);
            }
            x.run(1);
            for (int q = 0; q < 8; q++) {
                int own = p == q ? 1 : 0;
                due.of(x, q, 2 * own, 0, 0, own, own, own, own, 0, 0);
            }
        }
    }
}
