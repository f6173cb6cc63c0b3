import java.util.function.Consumer;
import java.util.function.ToIntFunction;

/** A situation that a desk can be in, made anew as often as it is asked for. */
final class Scene {
    private static final int[] LATER = {0, 1, 2, 3, 4, 6, 9, 14, 25, 40, 70, 120, 250};

    static final Scene NEW = new Scene("new", x -> { });
    static final Scene WALKING = new Scene("walking", Scene::walking);
    static final Scene CLEARING = new Scene("clearing", x -> {
        walking(x);
        x.run(4);
    });
    static final Scene YELLOW = new Scene("yellow with a next one", Scene::yellow);
    static final Scene RED_BEHIND = new Scene("red behind with a next one", x -> {
        yellow(x);
        x.run(4);
    });
    static final Scene CROSSING = new Scene("crossing", Scene::crossing);
    static final Scene OTHER_SIDE = new Scene("both green on side 1", x -> {
        crossing(x);
        x.run(7);
    });
    static final Scene RESTING = new Scene("green without any call", x -> {
        x.push(0);
        x.run(20);
    });
    static final Scene EXCHANGED = new Scene("exchanged, with other times and modes", Scene::exchanged);
    static final Scene STUCK = new Scene("stuck, and seen so once", x -> {
        walking(x);
        x.stick(7, 1);
        x.run(1);
    });
    static final Scene FLASHING = new Scene("flashing", Scene::flashing);
    static final Scene RESTARTED = new Scene("restarted", x -> {
        flashing(x);
        x.restart();
    });

    static final Scene[] ALL = {NEW, WALKING, CLEARING, YELLOW, RED_BEHIND, CROSSING, OTHER_SIDE, RESTING,
        EXCHANGED, STUCK, FLASHING, RESTARTED};

    final String name;
    private final Consumer<Desk> story;
    private int[][][] untouched = null;

    private Scene(String name, Consumer<Desk> story) {
        this.name = name;
        this.story = story;
    }

    static Scene of(String name, Consumer<Desk> story) {
        return new Scene(name, story);
    }

    Desk desk() {
        Desk x = new Desk();
        story.accept(x);
        return x;
    }

    /** In every scene: the call answers what is due, and nothing is done. */
    static void nothingIsDoneAnywhere(Due due, String call, int answer, ToIntFunction<Desk> said) {
        for (Scene scene : ALL) {
            scene.nothingIsDone(due, call, answer, said);
        }
    }

    /**
     * Nothing is done: all questions answer the same as on a desk that never had the call, now and
     * later, when the times, modes and orders that no question tells come to light.
     */
    void nothingIsDone(Due due, String call, int answer, ToIntFunction<Desk> said) {
        if (untouched == null) {
            untouched = rememberUntouched();
        }
        for (int way = 0; way < 3; way++) {
            for (int i = 0; i < LATER.length; i++) {
                Desk x = desk();
                String where = name + ": " + call;
                due.is(where, said.applyAsInt(x), answer);
                goOn(x, way, LATER[i]);
                where += ", " + LATER[i] + " ticks later (" + way + "): ";
                Answers.same(due, where, Answers.all(x), untouched[way][i]);
            }
        }
    }

    private int[][][] rememberUntouched() {
        int[][][] answers = new int[3][LATER.length][];
        for (int way = 0; way < 3; way++) {
            for (int i = 0; i < LATER.length; i++) {
                Desk x = desk();
                goOn(x, way, LATER[i]);
                answers[way][i] = Answers.all(x);
            }
        }
        return answers;
    }

    /** Way 0 leaves it alone; 1 has walkers everywhere, so gaps end greens; 2 cars too, so pressure does. */
    private static void goOn(Desk x, int way, int ticks) {
        if (way > 0) {
            x.restart();
            for (int p = 0; p < 8; p++) {
                x.push(p);
                if (way == 2) {
                    x.car(p, 1);
                }
            }
        }
        x.run(ticks);
    }

    private static void walking(Desk x) {
        for (int p = 0; p < 8; p++) {
            x.set(p, 5, 3);
            x.set(p, 6, 4);
        }
        x.set(4, 5, 5);
        x.push(0);
        x.push(4);
        x.car(4, 1);
        x.run(1);
        x.car(3, 1);
        x.car(3, 0);
        x.push(5);
        x.run(1);
    }

    private static void yellow(Desk x) {
        x.push(0);
        x.push(1);
        x.push(4);
        x.car(5, 1);
        x.car(7, 1);
        x.run(6);
    }

    private static void crossing(Desk x) {
        x.car(1, 1);
        x.push(4);
        x.run(1);
        x.car(1, 0);
        x.push(2);
        x.push(6);
        x.run(5);
        x.car(0, 1);
    }

    private static void exchanged(Desk x) {
        for (int p = 0; p < 8; p++) {
            for (int time = 0; time < 7; time++) {
                x.set(p, time, 4 + (p + 2 * time) % 7);
            }
            x.mode(p, p % 2 == 0 ? 1 : 39);
        }
        x.exchange(0, 1);
        x.exchange(1, 0);
        x.push(0);
        x.run(3);
    }

    private static void flashing(Desk x) {
        walking(x);
        x.stick(7, 2);
        x.run(1);
        x.stick(7, 0);
        x.run(2);
        x.stick(7, -1);
    }
}
