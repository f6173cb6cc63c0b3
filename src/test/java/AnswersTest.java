/** Promises 10 to 13: of, ring, state and check, with questions that have no answer. */
final class AnswersTest {
    private static final int[] FAR = {Integer.MIN_VALUE, -2, -1, 9, 10, Integer.MAX_VALUE};
    private static final Due due = new Due();

    public static void main(String[] args) {
        wrongQuestions();
        everyAnswerOfAMovement();
        everyAnswerOfARing();
        mayEndIsAskedNow();
        everyAnswerOfTheState();
        askingChangesNothing();
        checkHoldsWithStuckLamps();
        due.end();
    }

    private static void wrongQuestions() {
        CrossingDesk x = new CrossingDesk();
        x.push(0);
        x.run(1);
        for (int wrong : FAR) {
            due.is("of(0, " + wrong + ")", x.of(0, wrong), -1);
            due.is("ring(0, " + wrong + ")", x.ring(0, wrong), -1);
            due.is("state(" + wrong + ")", x.state(wrong), -1);
            for (int what = 0; what < 9; what++) {
                due.is("of(" + wrong + ", " + what + ")", x.of(wrong, what), -1);
                due.is("ring(" + wrong + ", " + what + ")", x.ring(wrong, what), -1);
            }
        }
        due.is("of(8, 0)", x.of(8, 0), -1);
        due.is("ring(2, 1)", x.ring(2, 1), -1);
        due.is("ring(0, 7)", x.ring(0, 7), -1);
        due.is("state(5)", x.state(5), -1);
    }

    private static void everyAnswerOfAMovement() {
        CrossingDesk x = new CrossingDesk();
        x.set(1, 5, 2);
        x.set(1, 6, 1);
        x.car(1, 1);
        x.push(1);
        due.of(x, 1, 0, 0, 1, 0, 0, 0, 1, 1, 1, -1);
        x.run(1);
        due.of(x, 1, 2, 1, 0, 1, 1, 1, 1, 0, 0, -1);
        x.car(1, 0);
        x.run(2);
        due.of(x, 1, 2, 2, 0, 0, 1, 1, 0, 0, 0, -1);
        x.push(2);
        x.run(3);
        due.of(x, 1, 1, 0, 0, 0, 1, 1, 0, 0, 0, -1);
        due.of(x, 2, 0, 0, 1, 3, 3, 0, 0, 1, 0, -1);
        x.run(4);
        due.of(x, 1, 0, 0, 0, 0, 1, 1, 0, 0, 0, -1);
        x.run(2);
        due.of(x, 2, 2, 0, 0, 9, 9, 1, 0, 0, 0, -1);
        x.run(1);
        due.of(x, 2, 2, 0, 0, 0, 9, 1, 0, 0, 0, -1);
    }

    private static void everyAnswerOfARing() {
        CrossingDesk x = new CrossingDesk();
        x.push(4);
        x.car(5, 1);
        x.run(1);
        due.ring(x, 1, 4, 1, 0, 3, 0, 0, -1, -1);
        x.run(2);
        due.ring(x, 1, 4, 1, 2, 1, 2, 0, -1, -1);
        x.run(4);
        due.ring(x, 1, 4, 2, 1, 0, 0, 0, 5, -1);
        x.run(4);
        due.ring(x, 1, 4, 3, 1, 0, 0, 0, 5, -1);
        x.run(1);
        due.ring(x, 1, 5, 1, 0, 3, 0, 0, -1, -1);
        x.car(5, 0);
        x.run(5);
        due.ring(x, 1, 5, 1, 5, 0, 0, 1, -1, -1);
        due.ring(x, 0, -1, 0, 0, 0, 0, 0, -1, -1);
    }

    private static void mayEndIsAskedNow() {
        CrossingDesk x = new CrossingDesk();
        x.push(0);
        x.run(11);
        due.is("may end", x.ring(0, 5), 1);
        x.set(0, 0, 11);
        due.is("least green is more now", x.ring(0, 5), 0);
        x.set(0, 0, 10);
        due.is("as long as least green", x.ring(0, 5), 1);
        CrossingDesk y = new CrossingDesk();
        y.car(0, 1);
        y.car(4, 1);
        y.run(1);
        y.push(2);
        y.run(10);
        due.is("pressure is less", y.ring(0, 5), 0);
        y.set(0, 2, 10);
        due.is("most green is as much now", y.ring(0, 5), 1);
    }

    private static void everyAnswerOfTheState() {
        CrossingDesk x = new CrossingDesk();
        x.push(0);
        x.run(1);
        due.state(x, 1, 0, 0, 0, 0, -1);
        x.push(2);
        x.run(5);
        due.state(x, 6, 0, 1, 0, 1, -1);
        x.run(6);
        due.state(x, 12, 1, 0, 0, 1, -1);
        x.push(0);
        x.run(11);
        due.state(x, 23, 0, 0, 0, 2, -1);
    }

    private static void askingChangesNothing() {
        CrossingDesk asked = new CrossingDesk();
        CrossingDesk quiet = new CrossingDesk();
        for (int p = 0; p < 8; p++) {
            asked.mode(p, 7);
            quiet.mode(p, 7);
        }
        for (int i = 0; i < 30; i++) {
            asked.run(1);
            quiet.run(1);
            asked.check();
            asked.of(i % 8, i % 9);
            asked.ring(i % 2, i % 7);
            asked.state(i % 5);
        }
        for (int p = 0; p < 8; p++) {
            for (int what = 0; what < 9; what++) {
                due.is("of(" + p + ", " + what + ")", asked.of(p, what), quiet.of(p, what));
            }
        }
        due.is("time", asked.state(0), 30);
        due.is("flashing", asked.state(3), 0);
    }

    private static void checkHoldsWithStuckLamps() {
        CrossingDesk x = new CrossingDesk();
        for (int p = 0; p < 8; p++) {
            x.mode(p, 7);
            x.stick(p, 2);
            due.is("check()", x.check(), 1);
        }
        for (int i = 0; i < 100; i++) {
            x.run(1);
            due.is("check()", x.check(), 1);
            x.restart();
        }
    }
}
