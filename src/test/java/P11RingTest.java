/**
 * Promise 11: "The movement of a ring (what 0; NONE when dark), 1 green .. the next one (6; NONE
 * without); NONE for others."
 */
final class P11RingTest {
    private static final Due due = new Due("promise 11, ring");

    public static void main(String[] args) {
        due.test("rings 0 and 1, what 0 and 6 are the last ones", P11RingTest::theLastOnes);
        due.test("no such ring: -1", () -> noSuchRing(-1));
        due.test("no such ring: 2", () -> noSuchRing(2));
        due.test("no such ring: the lowest int", () -> noSuchRing(Integer.MIN_VALUE));
        due.test("no such ring: the highest int", () -> noSuchRing(Integer.MAX_VALUE));
        due.test("no such what: -1", () -> noSuchWhat(-1));
        due.test("no such what: 7", () -> noSuchWhat(7));
        due.test("no such what: the lowest int", () -> noSuchWhat(Integer.MIN_VALUE));
        due.test("no such what: the highest int", () -> noSuchWhat(Integer.MAX_VALUE));
        due.test("neither ring nor what", P11RingTest::neither);
        due.test("asking changes nothing", P11RingTest::askingChangesNothing);
        due.test("dark: NONE, 0, 0, 0, 0, 0, NONE", P11RingTest::dark);
        due.test("dark after a green: age is 0 and stays so", P11RingTest::darkAgain);
        due.test("green: age, left and pressure", P11RingTest::green);
        due.test("yellow: left and pressure are 0", P11RingTest::yellow);
        due.test("red behind: left and pressure are 0", P11RingTest::redBehind);
        due.test("what 5: may end is told as things are now", P11RingTest::mayEndNow);
        due.test("what 6: the next one, and NONE without", P11RingTest::next);
        due.end();
    }

    private static void theLastOnes() {
        for (int r = 0; r < 2; r++) {
            Desk x = new Desk();
            x.push(4 * r);
            x.push(4 * r + 1);
            x.run(6);
            due.is("ring(" + r + ", 0)", x.ring(r, 0), 4 * r);
            due.is("ring(" + r + ", 6)", x.ring(r, 6), 4 * r + 1);
        }
    }

    private static void noSuchRing(int r) {
        for (int what = 0; what < 7; what++) {
            int each = what;
            Scene.nothingIsDoneAnywhere(due, "ring(" + r + ", " + what + ")", -1, x -> x.ring(r, each));
        }
    }

    private static void noSuchWhat(int what) {
        for (int r = 0; r < 2; r++) {
            int each = r;
            Scene.nothingIsDoneAnywhere(due, "ring(" + r + ", " + what + ")", -1, x -> x.ring(each, what));
        }
    }

    private static void neither() {
        for (int r : new int[] {-1, 2}) {
            for (int what : new int[] {-1, 7}) {
                due.is("ring(" + r + ", " + what + ")", Scene.YELLOW.desk().ring(r, what), -1);
            }
        }
    }

    private static void askingChangesNothing() {
        for (Scene scene : Scene.ALL) {
            for (int r = 0; r < 2; r++) {
                for (int what = 0; what < 7; what++) {
                    int ring = r;
                    int each = what;
                    int answer = scene.desk().ring(r, what);
                    scene.nothingIsDone(due, "ring(" + r + ", " + what + ")", answer, x -> x.ring(ring, each));
                }
            }
        }
    }

    private static void dark() {
        for (int r = 0; r < 2; r++) {
            Desk x = new Desk();
            due.ring(x, r, -1, 0, 0, 0, 0, 0, -1);
            x.run(100);
            due.ring(x, r, -1, 0, 0, 0, 0, 0, -1);
        }
    }

    private static void darkAgain() {
        for (int r = 0; r < 2; r++) {
            Desk x = new Desk();
            x.car(4 * r, 1);
            x.run(1);
            x.car(4 * r, 0);
            x.push(6 - 4 * r);
            x.run(11);
            due.is("a crossing began and ended", x.state(1), 1);
            due.ring(x, r, -1, 0, 0, 0, 0, 0, -1);
            x.run(3);
            due.ring(x, r, -1, 0, 0, 0, 0, 0, -1);
        }
    }

    private static void green() {
        for (int r = 0; r < 2; r++) {
            Desk x = new Desk();
            x.push(4 * r);
            x.car(4 * r + 1, 1);
            x.run(1);
            due.ring(x, r, 4 * r, 1, 0, 3, 0, 0, -1);
            x.run(2);
            due.ring(x, r, 4 * r, 1, 2, 1, 2, 0, -1);
            due.ring(x, 1 - r, -1, 0, 0, 0, 0, 0, -1);
        }
    }

    private static void yellow() {
        for (int r = 0; r < 2; r++) {
            Desk x = new Desk();
            x.set(4 * r, 2, 8);
            x.car(4 * r, 1);
            x.push(4 * r + 1);
            x.run(8);
            due.ring(x, r, 4 * r, 1, 7, 3, 7, 0, -1);
            x.run(1);
            due.ring(x, r, 4 * r, 2, 0, 0, 0, 0, 4 * r + 1);
            x.run(3);
            due.ring(x, r, 4 * r, 2, 3, 0, 0, 0, 4 * r + 1);
        }
    }

    private static void redBehind() {
        for (int r = 0; r < 2; r++) {
            Desk x = new Desk();
            x.set(4 * r, 2, 8);
            x.car(4 * r, 1);
            x.push(4 * r + 1);
            x.run(13);
            due.ring(x, r, 4 * r, 3, 0, 0, 0, 0, 4 * r + 1);
            x.run(1);
            due.ring(x, r, 4 * r, 3, 1, 0, 0, 0, 4 * r + 1);
            x.run(1);
            due.ring(x, r, 4 * r + 1, 1, 0, 3, 0, 0, -1);
        }
    }

    private static void mayEndNow() {
        Desk x = new Desk();
        x.push(0);
        x.run(11);
        due.is("may end", x.ring(0, 5), 1);
        x.set(0, 0, 11);
        due.is("least green is more than age now", x.ring(0, 5), 0);
        x.set(0, 0, 10);
        due.is("least green is age now", x.ring(0, 5), 1);
        Desk y = new Desk();
        y.car(0, 1);
        y.car(4, 1);
        y.run(1);
        y.push(2);
        y.run(10);
        due.is("most green is more than pressure", y.ring(0, 5), 0);
        y.set(0, 2, 11);
        due.is("still more", y.ring(0, 5), 0);
        y.set(0, 2, 10);
        due.is("most green is pressure now", y.ring(0, 5), 1);
    }

    private static void next() {
        for (int p = 0; p < 8; p++) {
            Desk x = new Desk();
            x.push(p);
            x.run(1);
            x.push(p ^ 1);
            x.run(4);
            due.is("called, but not next yet", x.ring(p / 4, 6), -1);
            x.run(1);
            due.is("next", x.ring(p / 4, 6), p ^ 1);
            x.run(5);
            due.is("still next", x.ring(p / 4, 6), p ^ 1);
            x.run(1);
            due.is("green, so not next any more", x.ring(p / 4, 6), -1);
            due.is("none in the other ring", x.ring(1 - p / 4, 6), -1);
        }
    }
}
