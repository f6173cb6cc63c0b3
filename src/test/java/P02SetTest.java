/**
 * Promise 2: "A time of a movement: 1; 0, and nothing is done, when there is no such movement or time,
 * or it is not within its numbers."
 */
final class P02SetTest {
    private static final int[] LOWEST = {1, 0, 1, 3, 0, 0, 0};
    private static final int[] HIGHEST = {200, 100, 500, 50, 50, 100, 200};
    private static final String[] TIMES = {"least green", "gap", "most green", "yellow", "red behind", "walk",
        "clearing"};
    private static final Due due = new Due("promise 2, set");

    public static void main(String[] args) {
        due.test("movements 0 and 7 are the last ones", P02SetTest::theLastMovements);
        due.test("no such movement: -1", () -> noSuchMovement(-1));
        due.test("no such movement: 8", () -> noSuchMovement(8));
        due.test("no such movement: the lowest int", () -> noSuchMovement(Integer.MIN_VALUE));
        due.test("no such movement: the highest int", () -> noSuchMovement(Integer.MAX_VALUE));
        due.test("times 0 and 6 are the last ones", P02SetTest::theLastTimes);
        due.test("no such time: -1", () -> noSuchTime(-1));
        due.test("no such time: 7", () -> noSuchTime(7));
        due.test("no such time: the lowest int", () -> noSuchTime(Integer.MIN_VALUE));
        due.test("no such time: the highest int", () -> noSuchTime(Integer.MAX_VALUE));
        for (int time = 0; time < 7; time++) {
            int each = time;
            String name = TIMES[time];
            due.test(name + " below " + LOWEST[time], () -> notWithin(each, LOWEST[each] - 1));
            due.test(name + " above " + HIGHEST[time], () -> notWithin(each, HIGHEST[each] + 1));
            due.test(name + " the lowest int", () -> notWithin(each, Integer.MIN_VALUE));
            due.test(name + " the highest int", () -> notWithin(each, Integer.MAX_VALUE));
        }
        due.test("least green 1, the lowest", () -> leastGreen(1));
        due.test("least green 200, the highest", () -> leastGreen(200));
        due.test("gap 0, the lowest", P02SetTest::gap0);
        due.test("gap 100, the highest", P02SetTest::gap100);
        due.test("most green 1, the lowest", () -> mostGreen(1));
        due.test("most green 500, the highest", () -> mostGreen(500));
        due.test("yellow 3, the lowest", () -> yellow(3));
        due.test("yellow 50, the highest", () -> yellow(50));
        due.test("red behind 0, the lowest", P02SetTest::redBehind0);
        due.test("red behind 50, the highest", P02SetTest::redBehind50);
        due.test("walk 0, the lowest", P02SetTest::walk0);
        due.test("walk 100, the highest", () -> walkAndClearing(100, 1));
        due.test("clearing 0, the lowest", () -> walkAndClearing(1, 0));
        due.test("clearing 200, the highest", () -> walkAndClearing(1, 200));
        due.test("the same time again is set too", P02SetTest::theSameAgain);
        due.test("set in every scene", P02SetTest::inEveryScene);
        due.test("other movements keep their times", P02SetTest::othersKeepTheirs);
        due.end();
    }

    private static void theLastMovements() {
        for (int p : new int[] {0, 7}) {
            for (int time = 0; time < 7; time++) {
                Desk x = new Desk();
                due.is("set(" + p + ", " + time + ", 7)", x.set(p, time, 7), 1);
            }
            Desk y = new Desk();
            y.set(p, 1, 7);
            y.push(p);
            y.run(1);
            due.is("left", y.ring(p / 4, 3), 7);
        }
    }

    private static void noSuchMovement(int p) {
        for (int time = 0; time < 7; time++) {
            int each = time;
            for (int ticks : new int[] {3, HIGHEST[time]}) {
                Scene.nothingIsDoneAnywhere(due, "set(" + p + ", " + time + ", " + ticks + ")", 0,
                    x -> x.set(p, each, ticks));
            }
        }
    }

    private static void theLastTimes() {
        for (int p = 0; p < 8; p++) {
            Desk x = new Desk();
            due.is("set(" + p + ", 0, 9)", x.set(p, 0, 9), 1);
            due.is("set(" + p + ", 6, 9)", x.set(p, 6, 9), 1);
            x.set(p, 5, 1);
            x.push(p);
            x.run(10);
            due.of(x, p, 2, 2);
            x.run(1);
            due.of(x, p, 2, 0);
        }
    }

    private static void noSuchTime(int time) {
        for (int p = 0; p < 8; p++) {
            int each = p;
            for (int ticks : new int[] {0, 3, 50}) {
                Scene.nothingIsDoneAnywhere(due, "set(" + p + ", " + time + ", " + ticks + ")", 0,
                    x -> x.set(each, time, ticks));
            }
        }
    }

    private static void notWithin(int time, int ticks) {
        for (int p = 0; p < 8; p++) {
            int each = p;
            Scene.nothingIsDoneAnywhere(due, "set(" + p + ", " + time + ", " + ticks + ")", 0,
                x -> x.set(each, time, ticks));
        }
    }

    private static Desk with(int p, int time, int ticks) {
        Desk x = new Desk();
        due.is("set(" + p + ", " + time + ", " + ticks + ")", x.set(p, time, ticks), 1);
        return x;
    }

    private static void leastGreen(int ticks) {
        for (int p = 0; p < 8; p++) {
            Desk x = with(p, 0, ticks);
            x.set(p, 1, 0);
            x.push(p);
            x.run(ticks);
            due.ring(x, p / 4, p, 1, ticks - 1, 0, 0, 0, -1);
            x.run(1);
            due.ring(x, p / 4, p, 1, ticks, 0, 0, 1, -1);
        }
    }

    private static void gap0() {
        for (int p = 0; p < 8; p++) {
            Desk x = with(p, 1, 0);
            x.car(p, 1);
            x.run(1);
            due.ring(x, p / 4, p, 1, 0, 0, 0, 0, -1);
            x.run(5);
            due.ring(x, p / 4, p, 1, 5, 0, 0, 1, -1);
        }
    }

    private static void gap100() {
        for (int p = 0; p < 8; p++) {
            Desk x = with(p, 1, 100);
            x.push(p);
            x.run(1);
            due.is("left", x.ring(p / 4, 3), 100);
            x.run(99);
            due.ring(x, p / 4, p, 1, 99, 1, 0, 0, -1);
            x.run(1);
            due.ring(x, p / 4, p, 1, 100, 0, 0, 1, -1);
            x.car(p, 1);
            x.run(1);
            due.is("left with a car", x.ring(p / 4, 3), 100);
        }
    }

    private static void mostGreen(int ticks) {
        for (int p = 0; p < 8; p++) {
            Desk x = with(p, 2, ticks);
            x.set(p, 0, 1);
            x.car(p, 1);
            x.run(1);
            x.push(p ^ 2);
            x.run(ticks - 1);
            due.ring(x, p / 4, p, 1, ticks - 1, 3, ticks - 1, 0, -1);
            x.run(1);
            due.ring(x, p / 4, p, 2, 0, 0, 0, 0, -1);
        }
    }

    private static void end(Desk x, int p) {
        x.push(p);
        x.run(1);
        x.push(p ^ 2);
        x.run(5);
        due.ring(x, p / 4, p, 2, 0, 0, 0, 0, -1);
    }

    private static void yellow(int ticks) {
        for (int p = 0; p < 8; p++) {
            Desk x = with(p, 3, ticks);
            end(x, p);
            x.run(ticks - 1);
            due.ring(x, p / 4, p, 2, ticks - 1, 0, 0, 0, -1);
            x.run(1);
            due.ring(x, p / 4, p, 3, 0, 0, 0, 0, -1);
            x.run(2);
            due.is("the guard is content", x.state(3), 0);
        }
    }

    private static void redBehind0() {
        for (int p = 0; p < 8; p++) {
            Desk x = with(p, 4, 0);
            end(x, p);
            x.run(3);
            due.ring(x, p / 4, p, 2, 3, 0, 0, 0, -1);
            due.is("run(1)", x.run(1), 1);
            due.ring(x, p / 4, p ^ 2, 1, 0, 3, 0, 0, -1);
        }
    }

    private static void redBehind50() {
        for (int p = 0; p < 8; p++) {
            Desk x = with(p, 4, 50);
            end(x, p);
            x.run(4);
            due.ring(x, p / 4, p, 3, 0, 0, 0, 0, -1);
            x.run(49);
            due.ring(x, p / 4, p, 3, 49, 0, 0, 0, -1);
            due.is("run(1)", x.run(1), 1);
            due.ring(x, p / 4, p ^ 2, 1, 0, 3, 0, 0, -1);
        }
    }

    private static void walk0() {
        for (int p = 0; p < 8; p++) {
            Desk x = with(p, 5, 9);
            due.is("set(" + p + ", 5, 0)", x.set(p, 5, 0), 1);
            x.set(p, 6, 200);
            x.push(p);
            x.run(1);
            due.of(x, p, 2, 0);
        }
    }

    private static void walkAndClearing(int walk, int clearing) {
        for (int p = 0; p < 8; p++) {
            Desk x = with(p, 5, walk);
            due.is("set(" + p + ", 6, 9)", x.set(p, 6, 9), 1);
            due.is("set(" + p + ", 6, " + clearing + ")", x.set(p, 6, clearing), 1);
            x.push(p);
            x.run(walk);
            due.of(x, p, 2, 1);
            x.run(clearing);
            due.of(x, p, 2, clearing > 0 ? 2 : 1);
            x.run(1);
            due.of(x, p, 2, 0);
        }
    }

    private static void theSameAgain() {
        for (int time = 0; time < 7; time++) {
            Desk x = with(3, time, 7);
            due.is("set(3, " + time + ", 7)", x.set(3, time, 7), 1);
        }
    }

    private static void inEveryScene() {
        for (Scene scene : Scene.ALL) {
            Desk x = scene.desk();
            int[] before = Answers.all(x);
            for (int p = 0; p < 8; p++) {
                due.is(scene.name + ": set(" + p + ", 3, 50)", x.set(p, 3, 50), 1);
            }
            Answers.same(due, scene.name + ": yellow is not asked now: ", Answers.all(x), before);
        }
    }

    private static void othersKeepTheirs() {
        for (int p = 0; p < 8; p++) {
            Desk x = new Desk();
            for (int time = 0; time < 7; time++) {
                x.set(p, time, 40);
            }
            int q = (p + 3) % 8;
            end(x, q);
            x.run(3);
            due.ring(x, q / 4, q, 2, 3, 0, 0, 0, -1);
            x.run(1);
            due.ring(x, q / 4, q, 3, 0, 0, 0, 0, -1);
            due.is("run(2)", x.run(2), 1);
        }
    }
}
