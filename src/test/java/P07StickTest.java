/**
 * Promise 7: "A movement's lamps are stuck at a light (0 .. 2), or not any more (NONE): 1; 0, and
 * nothing is done, when there is no such movement or light."
 */
final class P07StickTest {
    private static final Due due = new Due("promise 7, stick");

    public static void main(String[] args) {
        due.test("movements 0 and 7 are the last ones", P07StickTest::theLastMovements);
        due.test("no such movement: -1", () -> noSuchMovement(-1));
        due.test("no such movement: 8", () -> noSuchMovement(8));
        due.test("no such movement: the lowest int", () -> noSuchMovement(Integer.MIN_VALUE));
        due.test("no such movement: the highest int", () -> noSuchMovement(Integer.MAX_VALUE));
        due.test("light 0, the lowest", () -> stuckAt(0));
        due.test("light 1", () -> stuckAt(1));
        due.test("light 2, the highest", () -> stuckAt(2));
        due.test("light NONE: not any more", P07StickTest::notAnyMore);
        due.test("light NONE where nothing is stuck", P07StickTest::noneAgain);
        due.test("no such light: -2", () -> noSuchLight(-2));
        due.test("no such light: 3, though it is what flashing shows", () -> noSuchLight(3));
        due.test("no such light: the lowest int", () -> noSuchLight(Integer.MIN_VALUE));
        due.test("no such light: the highest int", () -> noSuchLight(Integer.MAX_VALUE));
        due.test("no such light leaves a stuck one stuck", P07StickTest::stillStuck);
        due.test("stuck lamps alone change nothing but lights", P07StickTest::lightsAlone);
        due.test("while flashing it is taken, and shown after a restart", P07StickTest::whileFlashing);
        due.end();
    }

    private static void theLastMovements() {
        for (int p : new int[] {0, 7}) {
            Desk x = new Desk();
            due.is("stick(" + p + ", 1)", x.stick(p, 1), 1);
            due.is("of(" + p + ", 0)", x.of(p, 0), 1);
            due.is("stick(" + p + ", -1)", x.stick(p, -1), 1);
            due.is("of(" + p + ", 0)", x.of(p, 0), 0);
        }
    }

    private static void noSuchMovement(int p) {
        for (int light = -1; light < 3; light++) {
            int each = light;
            Scene.nothingIsDoneAnywhere(due, "stick(" + p + ", " + light + ")", 0, x -> x.stick(p, each));
        }
    }

    private static void stuckAt(int light) {
        for (int p = 0; p < 8; p++) {
            Desk x = new Desk();
            due.is("stick(" + p + ", " + light + ")", x.stick(p, light), 1);
            due.is("stick(" + p + ", " + light + ") again", x.stick(p, light), 1);
            due.is("red as told", x.of(p, 0), light);
            x.push(p);
            x.run(1);
            due.is("green as told", x.of(p, 0), light);
            x.push(p ^ 2);
            x.run(5);
            due.is("yellow as told", x.ring(p / 4, 1), 2);
            due.is("yellow as told", x.of(p, 0), light);
            for (int q = 0; q < 8; q++) {
                due.is("others are red", p == q ? 0 : x.of(q, 0), 0);
            }
        }
    }

    private static void notAnyMore() {
        for (int p = 0; p < 8; p++) {
            for (int light = 0; light < 3; light++) {
                Desk x = new Desk();
                x.push(p);
                x.run(1);
                x.stick(p, light);
                due.is("stick(" + p + ", -1)", x.stick(p, CrossingDesk.NONE), 1);
                due.is("green as told", x.of(p, 0), 2);
                x.run(20);
                due.is("the guard never saw it", x.state(3), 0);
            }
        }
    }

    private static void noneAgain() {
        for (Scene scene : Scene.ALL) {
            if (scene != Scene.STUCK) {
                for (int p = 0; p < 8; p++) {
                    int each = p;
                    scene.nothingIsDone(due, "stick(" + p + ", -1)", 1, x -> x.stick(each, -1));
                }
            }
        }
    }

    private static void noSuchLight(int light) {
        for (int p = 0; p < 8; p++) {
            int each = p;
            Scene.nothingIsDoneAnywhere(due, "stick(" + p + ", " + light + ")", 0, x -> x.stick(each, light));
        }
    }

    private static void stillStuck() {
        for (int stuck = 0; stuck < 3; stuck++) {
            int at = stuck;
            Scene scene = Scene.of("green, but stuck at " + at, x -> {
                x.push(0);
                x.run(1);
                x.stick(0, at);
            });
            for (int light : new int[] {-2, 3}) {
                scene.nothingIsDone(due, "stick(0, " + light + ")", 0, x -> x.stick(0, light));
            }
        }
    }

    private static void lightsAlone() {
        Desk x = new Desk();
        Desk y = new Desk();
        for (Desk each : new Desk[] {x, y}) {
            each.push(0);
            each.car(5, 1);
            each.push(1);
        }
        x.stick(0, 2);
        x.run(8);
        y.run(8);
        int[] got = Answers.all(x);
        int[] want = Answers.all(y);
        due.is("yellow as told", want[0], 1);
        due.is("stuck at green", got[0], 2);
        got[0] = want[0];
        Answers.same(due, "all else: ", got, want);
    }

    private static void whileFlashing() {
        Desk x = Scene.FLASHING.desk();
        due.is("stick(2, 1)", x.stick(2, 1), 1);
        due.is("flashing", x.of(2, 0), 3);
        x.restart();
        due.is("stuck", x.of(2, 0), 1);
    }
}
