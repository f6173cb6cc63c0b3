/**
 * Promise 8: "So many ticks: how many greens began. NONE, and nothing is done, when they are not 0 ..
 * 500."
 */
final class P08RunTest {
    private static final Due due = new Due("promise 8, run");

    public static void main(String[] args) {
        due.test("-1 ticks", () -> notWithin(-1));
        due.test("501 ticks", () -> notWithin(501));
        due.test("the lowest int", () -> notWithin(Integer.MIN_VALUE));
        due.test("the highest int", () -> notWithin(Integer.MAX_VALUE));
        due.test("0 ticks, the lowest, do nothing", P08RunTest::noTicks);
        due.test("1 tick", P08RunTest::oneTick);
        due.test("500 ticks, the highest", P08RunTest::mostTicks);
        due.test("so many ticks are as many single ones", P08RunTest::asManySingleOnes);
        due.test("no greens began", P08RunTest::noGreens);
        due.test("both rings' greens are counted", P08RunTest::bothRings);
        due.test("greens of all its ticks are counted", P08RunTest::allItsTicks);
        due.test("a green in the tick that sets to flashing is counted", P08RunTest::greenInTheFlashingTick);
        due.test("flashing: time is one more, and that is all", P08RunTest::whileFlashing);
        due.end();
    }

    private static void notWithin(int ticks) {
        Scene.nothingIsDoneAnywhere(due, "run(" + ticks + ")", -1, x -> x.run(ticks));
    }

    private static void noTicks() {
        Scene.nothingIsDoneAnywhere(due, "run(0)", 0, x -> x.run(0));
    }

    private static void oneTick() {
        for (Scene scene : Scene.ALL) {
            Desk x = scene.desk();
            int before = x.state(0);
            due.is(scene.name + ": not NONE", Math.min(x.run(1), 0), 0);
            due.is(scene.name + ": time", x.state(0), before + 1);
        }
    }

    private static void mostTicks() {
        for (Scene scene : Scene.ALL) {
            Desk x = scene.desk();
            int before = x.state(0);
            due.is(scene.name + ": not NONE", Math.min(x.run(500), 0), 0);
            due.is(scene.name + ": time", x.state(0), before + 500);
        }
        Desk y = new Desk();
        y.push(0);
        due.is("run(500)", y.run(500), 1);
        due.ring(y, 0, 0, 1, 499, 0, 0, 1, -1);
    }

    private static void asManySingleOnes() {
        for (Scene scene : Scene.ALL) {
            Desk x = scene.desk();
            Desk y = scene.desk();
            for (int p = 0; p < 8; p += 3) {
                x.mode(p, 7);
                y.mode(p, 7);
            }
            int greens = 0;
            for (int i = 0; i < 200; i++) {
                greens += x.run(1);
            }
            due.is(scene.name + ": greens", y.run(200), greens);
            Answers.same(due, scene.name + ": ", Answers.all(y), Answers.all(x));
        }
    }

    private static void noGreens() {
        Desk x = new Desk();
        due.is("run(9)", x.run(9), 0);
        x.push(0);
        due.is("run(1)", x.run(1), 1);
        due.is("run(9): it was green before", x.run(9), 0);
    }

    private static void bothRings() {
        Desk x = new Desk();
        x.push(1);
        x.push(4);
        x.push(5);
        due.is("run(1)", x.run(1), 2);
        due.lights(x, 0, 2, 0, 0, 2, 0, 0, 0);
    }

    private static void allItsTicks() {
        Desk x = new Desk();
        x.mode(0, 5);
        x.mode(1, 5);
        due.is("run(11)", x.run(11), 1);
        due.is("run(1)", x.run(1), 1);
        due.is("run(110)", x.run(110), 10);
        due.is("greens of 0", x.of(0, 5), 6);
        due.is("greens of 1", x.of(1, 5), 6);
    }

    private static void greenInTheFlashingTick() {
        Desk x = new Desk();
        x.stick(5, 2);
        x.run(1);
        x.stick(5, 0);
        x.push(0);
        due.is("run(9)", x.run(9), 1);
        due.state(x, 10, 0, 0, 2, 0);
        due.is("greens of 0", x.of(0, 5), 1);
    }

    private static void whileFlashing() {
        for (int ticks : new int[] {1, 2, 500}) {
            Desk x = Scene.FLASHING.desk();
            x.car(1, 1);
            x.push(2);
            int[] want = Answers.all(x);
            due.is("run(" + ticks + ")", x.run(ticks), 0);
            want[Answers.TIME] += ticks;
            Answers.same(due, "run(" + ticks + "): ", Answers.all(x), want);
        }
    }
}
