/** Promise 6: "Walkers push: 1; 0 when they had, or there is no such movement." */
final class P06PushTest {
    private static final Due due = new Due("promise 6, push");

    public static void main(String[] args) {
        due.test("movements 0 and 7 are the last ones", P06PushTest::theLastMovements);
        due.test("no such movement: -1", () -> noSuchMovement(-1));
        due.test("no such movement: 8", () -> noSuchMovement(8));
        due.test("no such movement: the lowest int", () -> noSuchMovement(Integer.MIN_VALUE));
        due.test("no such movement: the highest int", () -> noSuchMovement(Integer.MAX_VALUE));
        due.test("they had", P06PushTest::theyHad);
        due.test("they had, while it was green", P06PushTest::theyHadWhileGreen);
        due.test("forgotten when a green begins, so they can again", P06PushTest::forgotten);
        due.test("not forgotten while the green lasts", P06PushTest::notForgottenWhileGreen);
        due.test("one that is not used can be pushed", P06PushTest::notUsed);
        due.test("a push leaves no remembered call", P06PushTest::noRememberedCall);
        due.test("pushed in every scene", P06PushTest::inEveryScene);
        due.end();
    }

    private static void theLastMovements() {
        for (int p : new int[] {0, 7}) {
            Desk x = new Desk();
            due.is("push(" + p + ")", x.push(p), 1);
            due.of(x, p, 0, 0, 1, 0, 0, 0, 0, 1, 0);
        }
    }

    private static void noSuchMovement(int p) {
        Scene.nothingIsDoneAnywhere(due, "push(" + p + ")", 0, x -> x.push(p));
    }

    private static void theyHad() {
        for (int p = 0; p < 8; p++) {
            int each = p;
            Scene scene = Scene.of("pushed at " + p, x -> {
                x.push(each ^ 1);
                x.run(1);
                x.set(each, 5, 2);
                x.push(each);
            });
            due.is(scene.name, scene.desk().of(p, 7), 1);
            scene.nothingIsDone(due, "push(" + p + ")", 0, x -> x.push(each));
        }
    }

    private static void theyHadWhileGreen() {
        for (int p = 0; p < 8; p++) {
            int each = p;
            Scene scene = Scene.of("pushed at " + p + " while green", x -> {
                x.set(each, 5, 2);
                x.car(each, 1);
                x.run(1);
                x.push(each);
                x.run(9);
            });
            due.of(scene.desk(), p, 2, 0, 0, 0, 1, 1, 1, 1, 0);
            scene.nothingIsDone(due, "push(" + p + ")", 0, x -> x.push(each));
        }
    }

    private static void forgotten() {
        for (int p = 0; p < 8; p++) {
            Desk x = new Desk();
            x.push(p);
            x.run(1);
            due.is("pushed", x.of(p, 7), 0);
            due.is("push(" + p + ")", x.push(p), 1);
            due.of(x, p, 2, 0, 0, 1, 1, 1, 0, 1, 0);
        }
    }

    private static void notForgottenWhileGreen() {
        for (int p = 0; p < 8; p++) {
            Desk x = new Desk();
            x.push(p);
            x.run(1);
            x.push(p);
            x.run(20);
            due.of(x, p, 2, 0, 0, 0, 1, 1, 0, 1, 0);
            x.push(p ^ 2);
            x.run(1);
            due.of(x, p, 1, 0, 1, 0, 1, 1, 0, 1, 0);
        }
    }

    private static void notUsed() {
        for (int p = 0; p < 8; p++) {
            Desk x = new Desk();
            x.mode(p, 0);
            due.is("push(" + p + ")", x.push(p), 1);
            due.of(x, p, 0, 0, 0, 0, 0, 0, 0, 1, 0);
            due.is("they had", x.push(p), 0);
            x.mode(p, 1);
            due.is("called once it is used", x.of(p, 2), 1);
        }
    }

    private static void noRememberedCall() {
        for (int p = 0; p < 8; p++) {
            Desk x = new Desk();
            x.push(p);
            due.is("remembered", x.of(p, 8), 0);
            due.is("a car", x.of(p, 6), 0);
        }
    }

    private static void inEveryScene() {
        for (Scene scene : Scene.ALL) {
            for (int p = 0; p < 8; p++) {
                Desk x = scene.desk();
                int had = x.of(p, 7);
                due.is(scene.name + ": push(" + p + ")", x.push(p), 1 - had);
                due.is(scene.name + ": pushed", x.of(p, 7), 1);
            }
        }
    }
}
