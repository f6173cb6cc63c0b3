/**
 * Promise 5: "A car stands at a movement (1), or none (0): 1; 0, and nothing is done, when it is so,
 * or there is no such movement or number."
 */
final class P05CarTest {
    private static final Due due = new Due("promise 5, car");

    public static void main(String[] args) {
        due.test("movements 0 and 7 are the last ones", P05CarTest::theLastMovements);
        due.test("no such movement: -1", () -> noSuchMovement(-1));
        due.test("no such movement: 8", () -> noSuchMovement(8));
        due.test("no such movement: the lowest int", () -> noSuchMovement(Integer.MIN_VALUE));
        due.test("no such movement: the highest int", () -> noSuchMovement(Integer.MAX_VALUE));
        due.test("no such number: -1", () -> noSuchNumber(-1));
        due.test("no such number: 2", () -> noSuchNumber(2));
        due.test("no such number: 3", () -> noSuchNumber(3));
        due.test("no such number: the lowest int", () -> noSuchNumber(Integer.MIN_VALUE));
        due.test("no such number: the highest int", () -> noSuchNumber(Integer.MAX_VALUE));
        due.test("it is so: none stands there", P05CarTest::noneStands);
        due.test("it is so: one stands there", P05CarTest::oneStands);
        due.test("one that stands there leaves no new call", P05CarTest::standingIsNotComing);
        due.test("one that goes leaves its call", P05CarTest::goingForgetsNothing);
        due.test("comes to a red one: remembered", P05CarTest::comesToRed);
        due.test("comes to a green one: not remembered", P05CarTest::comesToGreen);
        due.test("comes to a yellow one: remembered", () -> comesAfter(5, 2));
        due.test("comes to one red behind: remembered", () -> comesAfter(9, 3));
        due.test("comes without mode 2: not remembered", P05CarTest::comesWithoutMode2);
        due.test("mode 2 after it came: not remembered", P05CarTest::mode2TooLate);
        due.test("remembered stays without mode 2", P05CarTest::rememberedStays);
        due.test("a lamp stuck at green is no green", P05CarTest::stuckAtGreen);
        due.test("comes while flashing: remembered", P05CarTest::comesWhileFlashing);
        due.end();
    }

    private static void theLastMovements() {
        for (int p : new int[] {0, 7}) {
            Desk x = new Desk();
            due.is("car(" + p + ", 1)", x.car(p, 1), 1);
            due.of(x, p, 0, 0, 1, 0, 0, 0, 1, 0, 1);
            due.is("car(" + p + ", 0)", x.car(p, 0), 1);
            due.of(x, p, 0, 0, 1, 0, 0, 0, 0, 0, 1);
        }
    }

    private static void noSuchMovement(int p) {
        Scene.nothingIsDoneAnywhere(due, "car(" + p + ", 0)", 0, x -> x.car(p, 0));
        Scene.nothingIsDoneAnywhere(due, "car(" + p + ", 1)", 0, x -> x.car(p, 1));
    }

    private static void noSuchNumber(int is) {
        for (int p = 0; p < 8; p++) {
            int each = p;
            Scene.nothingIsDoneAnywhere(due, "car(" + p + ", " + is + ")", 0, x -> x.car(each, is));
        }
    }

    private static void noneStands() {
        for (Scene scene : Scene.ALL) {
            for (int p = 0; p < 8; p++) {
                int each = p;
                if (scene.desk().of(p, 6) == 0) {
                    scene.nothingIsDone(due, "car(" + p + ", 0)", 0, x -> x.car(each, 0));
                    due.is(scene.name + ": car(" + p + ", 1)", scene.desk().car(p, 1), 1);
                }
            }
        }
    }

    private static void oneStands() {
        for (int p = 0; p < 8; p++) {
            int each = p;
            for (int ticks : new int[] {0, 1, 40}) {
                Scene scene = Scene.of("a car at " + p + " for " + ticks, x -> {
                    x.car(each, 1);
                    x.run(ticks);
                    x.push(each ^ 2);
                });
                scene.nothingIsDone(due, "car(" + p + ", 1)", 0, x -> x.car(each, 1));
                due.is(scene.name + ": car(" + p + ", 0)", scene.desk().car(p, 0), 1);
            }
        }
    }

    private static void standingIsNotComing() {
        for (int p = 0; p < 8; p++) {
            int each = p;
            Scene scene = Scene.of("yellow, with a car at " + p + " that came long ago", x -> {
                x.car(each, 1);
                x.run(1);
                x.push(each ^ 2);
                x.run(30);
            });
            due.of(scene.desk(), p, 1, 0, 1, 0, 1, 1, 1, 0, 0);
            scene.nothingIsDone(due, "car(" + p + ", 1)", 0, x -> x.car(each, 1));
        }
    }

    private static void goingForgetsNothing() {
        for (int p = 0; p < 8; p++) {
            Desk x = new Desk();
            x.car(p, 1);
            x.push(p);
            x.car(p, 0);
            due.of(x, p, 0, 0, 1, 0, 0, 0, 0, 1, 1);
            due.is("car(" + p + ", 1)", x.car(p, 1), 1);
            due.of(x, p, 0, 0, 1, 0, 0, 0, 1, 1, 1);
        }
    }

    private static void comesToRed() {
        for (int p = 0; p < 8; p++) {
            Desk x = new Desk();
            x.push(p ^ 1);
            x.run(1);
            x.car(p, 1);
            due.of(x, p, 0, 0, 1, 0, 0, 0, 1, 0, 1);
        }
    }

    private static void comesToGreen() {
        for (int p = 0; p < 8; p++) {
            Desk x = new Desk();
            x.push(p);
            x.run(1);
            due.is("car(" + p + ", 1)", x.car(p, 1), 1);
            due.of(x, p, 2, 0, 0, 1, 1, 1, 1, 0, 0);
            due.is("car(" + p + ", 0)", x.car(p, 0), 1);
            due.of(x, p, 2, 0, 0, 1, 1, 1, 0, 0, 0);
        }
    }

    private static void comesAfter(int ticks, int phase) {
        for (int p = 0; p < 8; p++) {
            Desk x = new Desk();
            x.push(p);
            x.run(1);
            x.push(p ^ 2);
            x.run(ticks);
            due.is("how the ring is", x.ring(p / 4, 1), phase);
            due.is("car(" + p + ", 1)", x.car(p, 1), 1);
            due.of(x, p, phase == 2 ? 1 : 0, 0, 1, 0, 1, 1, 1, 0, 1);
        }
    }

    private static void comesWithoutMode2() {
        for (int p = 0; p < 8; p++) {
            Desk x = new Desk();
            x.mode(p, 1);
            x.car(p, 1);
            due.of(x, p, 0, 0, 1, 0, 0, 0, 1, 0, 0);
            x.car(p, 0);
            due.of(x, p, 0, 0, 0, 0, 0, 0, 0, 0, 0);
        }
    }

    private static void mode2TooLate() {
        Desk x = new Desk();
        x.mode(0, 1);
        x.car(0, 1);
        x.mode(0, 3);
        due.is("remembered", x.of(0, 8), 0);
        due.is("car(0, 1)", x.car(0, 1), 0);
        due.is("still not remembered", x.of(0, 8), 0);
    }

    private static void rememberedStays() {
        Desk x = new Desk();
        x.car(0, 1);
        x.car(0, 0);
        x.mode(0, 1);
        due.is("remembered", x.of(0, 8), 1);
        due.is("called", x.of(0, 2), 1);
    }

    private static void stuckAtGreen() {
        Desk x = new Desk();
        x.stick(0, 2);
        due.is("car(0, 1)", x.car(0, 1), 1);
        due.of(x, 0, 2, 0, 1, 0, 0, 0, 1, 0, 1);
    }

    private static void comesWhileFlashing() {
        Desk x = Scene.FLASHING.desk();
        due.is("car(6, 1)", x.car(6, 1), 1);
        due.of(x, 6, 3, 0, 1, 0, 0, 0, 1, 0, 1);
    }
}
