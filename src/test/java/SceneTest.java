/** The scenes that the other tests build on are what they are called. */
final class SceneTest {
    private static final Due due = new Due("scenes");

    public static void main(String[] args) {
        due.test("each scene is what it is called", SceneTest::eachSceneIsWhatItIsCalled);
        due.test("a scene is the same each time", SceneTest::aSceneIsTheSameEachTime);
        due.end();
    }

    private static void eachSceneIsWhatItIsCalled() {
        due.state(Scene.NEW.desk(), 0, 0, 0, 0, 0);
        for (int p = 0; p <= 4; p += 4) {
            due.of(Scene.WALKING.desk(), p, 2, 1);
            due.of(Scene.CLEARING.desk(), p, 2, 2);
            due.ring(Scene.YELLOW.desk(), p / 4, p, 2, 0, 0, 0, 0, p + 1);
            due.ring(Scene.RED_BEHIND.desk(), p / 4, p, 3, 0, 0, 0, 0, p + 1);
        }
        due.state(Scene.CROSSING.desk(), 6, 0, 1, 0, 1);
        due.state(Scene.OTHER_SIDE.desk(), 13, 1, 0, 0, 1);
        due.lights(Scene.OTHER_SIDE.desk(), 0, 0, 2, 0, 0, 0, 2, 0);
        due.ring(Scene.RESTING.desk(), 0, 0, 1, 19, 0, 0, 1, -1);
        due.lights(Scene.STUCK.desk(), 2, 0, 0, 0, 2, 0, 0, 1);
        due.state(Scene.STUCK.desk(), 3, 0, 0, 0, 0);
        due.state(Scene.FLASHING.desk(), 5, 0, 0, 2, 0);
        due.state(Scene.RESTARTED.desk(), 5, 0, 0, 0, 0);
    }

    private static void aSceneIsTheSameEachTime() {
        for (Scene scene : Scene.ALL) {
            Answers.same(due, scene.name + ": ", Answers.all(scene.desk()), Answers.all(scene.desk()));
        }
    }
}
