/**
 * Promise 13: "Whether, but for what is stuck, no two movements in each other's way are green or
 * yellow: 1; it would tell 0."
 */
final class P13CheckTest {
    private static final Due due = new Due("promise 13, check");

    public static void main(String[] args) {
        due.test("1 in every scene, and later", P13CheckTest::inEveryScene);
        due.test("asking changes nothing", P13CheckTest::askingChangesNothing);
        due.test("stuck lamps in each other's way do not count", P13CheckTest::stuckLamps);
        due.test("a stuck lamp in the way of a green does not count", P13CheckTest::stuckAgainstGreen);
        due.test("1 while flashing", P13CheckTest::whileFlashing);
        due.test("1 with both rings green", P13CheckTest::bothRingsGreen);
        due.test("1 in each tick when all are called always", P13CheckTest::allCalled);
        due.end();
    }

    private static void inEveryScene() {
        for (Scene scene : Scene.ALL) {
            Desk x = scene.desk();
            due.is(scene.name, x.check(), 1);
            for (int i = 0; i < 60; i++) {
                x.run(1);
                due.is(scene.name + ", later", x.check(), 1);
            }
        }
    }

    private static void askingChangesNothing() {
        Scene.nothingIsDoneAnywhere(due, "check()", 1, x -> x.check());
    }

    private static void stuckLamps() {
        for (int light = 1; light <= 2; light++) {
            Desk x = new Desk();
            for (int p = 0; p < 8; p++) {
                x.stick(p, light);
                due.is("check()", x.check(), 1);
            }
            x.push(0);
            x.push(4);
            x.run(1);
            due.is("seen once", x.check(), 1);
        }
    }

    private static void stuckAgainstGreen() {
        for (int p = 0; p < 8; p++) {
            for (int q = 0; q < 8; q++) {
                Desk x = new Desk();
                x.stick(p, 2);
                x.push(q);
                x.run(1);
                due.is("green as told", x.ring(q / 4, 1), 1);
                due.is("check() after a look", x.check(), 1);
                x.run(1);
                due.is("check() after two", x.check(), 1);
            }
        }
    }

    private static void whileFlashing() {
        Desk x = new Desk();
        x.stick(0, 2);
        x.stick(2, 2);
        x.run(2);
        due.is("flashing", x.of(0, 0), 3);
        due.is("check()", x.check(), 1);
    }

    private static void bothRingsGreen() {
        Desk x = new Desk();
        x.push(1);
        x.push(4);
        x.run(1);
        due.lights(x, 0, 2, 0, 0, 2, 0, 0, 0);
        due.is("check()", x.check(), 1);
    }

    private static void allCalled() {
        Desk x = new Desk();
        for (int p = 0; p < 8; p++) {
            x.mode(p, 63);
            x.set(p, 4, 0);
        }
        for (int i = 0; i < 200; i++) {
            x.run(1);
            due.is("check()", x.check(), 1);
        }
        due.is("crossings began", Math.min(x.state(4), 2), 2);
    }
}
