/**
 * Promise 12: "Time (what 0), the side (1), whether it is crossing (2 ..), what set all to flashing (3
 * ..), how many crossings began (4); NONE for others."
 */
final class P12StateTest {
    private static final Due due = new Due("promise 12, state");

    public static void main(String[] args) {
        due.test("what 0 and 4 are the last ones", P12StateTest::theLastOnes);
        due.test("no such what: -1", () -> noSuchWhat(-1));
        due.test("no such what: 5", () -> noSuchWhat(5));
        due.test("no such what: the lowest int", () -> noSuchWhat(Integer.MIN_VALUE));
        due.test("no such what: the highest int", () -> noSuchWhat(Integer.MAX_VALUE));
        due.test("asking changes nothing", P12StateTest::askingChangesNothing);
        due.test("what 0: time", P12StateTest::time);
        due.test("what 1 and 2: the side changes when crossing ends", P12StateTest::sideAndCrossing);
        due.test("what 3: 0 nothing, else 1 .. 3", P12StateTest::fault);
        due.test("what 4: crossings that began", P12StateTest::crossings);
        due.end();
    }

    private static void theLastOnes() {
        Desk x = Scene.CROSSING.desk();
        due.is("state(0)", x.state(0), 6);
        due.is("state(4)", x.state(4), 1);
    }

    private static void noSuchWhat(int what) {
        Scene.nothingIsDoneAnywhere(due, "state(" + what + ")", -1, x -> x.state(what));
    }

    private static void askingChangesNothing() {
        for (Scene scene : Scene.ALL) {
            for (int what = 0; what < 5; what++) {
                int each = what;
                int answer = scene.desk().state(what);
                scene.nothingIsDone(due, "state(" + what + ")", answer, x -> x.state(each));
            }
        }
    }

    private static void time() {
        Desk x = new Desk();
        due.is("state(0)", x.state(0), 0);
        x.run(1);
        due.is("state(0)", x.state(0), 1);
        x.run(500);
        due.is("state(0)", x.state(0), 501);
    }

    private static void sideAndCrossing() {
        Desk x = new Desk();
        x.push(0);
        x.run(1);
        x.push(2);
        x.run(4);
        due.state(x, 5, 0, 0, 0, 0);
        x.run(1);
        due.state(x, 6, 0, 1, 0, 1);
        x.run(5);
        due.state(x, 11, 0, 1, 0, 1);
        x.run(1);
        due.state(x, 12, 1, 0, 0, 1);
    }

    private static void fault() {
        for (int light = 1; light <= 2; light++) {
            Desk x = new Desk();
            due.is("state(3)", x.state(3), 0);
            x.stick(6, light);
            x.run(1);
            due.is("state(3)", x.state(3), 0);
            x.stick(6, 0);
            x.run(1);
            due.is("state(3)", x.state(3), light == 1 ? 3 : 2);
        }
        Desk y = new Desk();
        y.stick(6, 2);
        y.stick(5, 2);
        y.run(1);
        due.is("state(3)", y.state(3), 0);
        y.run(1);
        due.is("state(3)", y.state(3), 1);
    }

    private static void crossings() {
        Desk x = new Desk();
        x.push(2);
        x.run(1);
        due.state(x, 1, 1, 0, 0, 1);
        x.push(0);
        x.run(5);
        due.state(x, 6, 1, 1, 0, 2);
        x.run(6);
        due.state(x, 12, 0, 0, 0, 2);
    }
}
