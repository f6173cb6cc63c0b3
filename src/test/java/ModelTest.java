import java.util.Random;

/** All promises: many runs of calls by chance, always the same ones, against the plain model. */
final class ModelTest {
    private static final int RUNS = 12000;
    private static final int QUESTIONS_BETWEEN = 3;
    private static final int[] ODD = {Integer.MIN_VALUE, -2, -1, 0, 1, 2, 3, 7, 8, 9, 63, 64, 500, 501,
        Integer.MAX_VALUE};
    private static final Due due = new Due("all promises, by chance");

    public static void main(String[] args) {
        due.test("runs of calls as in the plain model", ModelTest::compareRuns);
        due.end();
    }

    private static void compareRuns() {
        for (int run = 0; run < RUNS; run++) {
            compareOneRun(run);
        }
    }

    private static void compareOneRun(int run) {
        Random chance = new Random(run);
        Desk x = new Desk();
        PlainModel y = new PlainModel();
        boolean stuckLamps = run % 3 == 0;
        boolean shortTimes = run % 2 == 0;
        prepare(chance, x, y, shortTimes);
        while (x.callsLeft() > 1 + QUESTIONS_BETWEEN + Answers.COUNT) {
            String where = "run " + run + ", " + x.callsLeft() + " calls before its end: ";
            int kind = chance.nextInt(100);
            if (kind < 35) {
                int ticks = 1 + chance.nextInt(chance.nextInt(10) == 0 ? 60 : 4);
                due.is(where + "run(" + ticks + ")", x.run(ticks), y.run(ticks));
            } else if (kind < 90 || !stuckLamps) {
                oneCall(chance, where, x, y, shortTimes);
            } else {
                stickOrRestart(chance, where, x, y);
            }
            for (int i = 0; i < QUESTIONS_BETWEEN; i++) {
                compareAnswer(chance.nextInt(Answers.COUNT), where, x, y);
            }
        }
        for (int question = 0; question < Answers.COUNT; question++) {
            compareAnswer(question, "run " + run + ", at its end: ", x, y);
        }
    }

    private static void prepare(Random chance, Desk x, PlainModel y, boolean shortTimes) {
        int sort = chance.nextInt(4);
        for (int p = 0; p < 8; p++) {
            int modes = sort == 0 ? 3 : sort == 1 ? 1 + 2 * chance.nextInt(2) : chance.nextInt(64) | 1;
            if (sort == 3) {
                modes = modes & 35;
            }
            due.is("mode", x.mode(p, modes), y.mode(p, modes));
            for (int t = 0; shortTimes && t < 7; t++) {
                int ticks = PlainModel.LOWEST[t] + chance.nextInt(6);
                due.is("set", x.set(p, t, ticks), y.set(p, t, ticks));
            }
        }
    }

    private static void oneCall(Random chance, String where, Desk x, PlainModel y, boolean shortTimes) {
        int p = chance.nextInt(8);
        int kind = chance.nextInt(40);
        if (kind < 24) {
            int is = chance.nextInt(5) < 2 ? 1 : 0;
            due.is(where + "car(" + p + ", " + is + ")", x.car(p, is), y.car(p, is));
        } else if (kind < 30) {
            due.is(where + "push(" + p + ")", x.push(p), y.push(p));
        } else if (kind < 33) {
            int side = chance.nextInt(2);
            due.is(where + "exchange", x.exchange(p % 2, side), y.exchange(p % 2, side));
        } else if (kind < 35) {
            int t = chance.nextInt(7);
            int range = shortTimes ? 9 : PlainModel.HIGHEST[t] + 3;
            int ticks = PlainModel.LOWEST[t] - 1 + chance.nextInt(range);
            due.is(where + "set", x.set(p, t, ticks), y.set(p, t, ticks));
        } else if (kind < 36) {
            int modes = chance.nextInt(66) - 1;
            due.is(where + "mode", x.mode(p, modes), y.mode(p, modes));
        } else if (kind < 37) {
            due.is(where + "mode", x.mode(p, 3), y.mode(p, 3));
        } else {
            oddCall(chance, where, x, y);
        }
    }

    private static void stickOrRestart(Random chance, String where, Desk x, PlainModel y) {
        if (chance.nextInt(2) == 0) {
            due.is(where + "restart()", x.restart(), y.restart());
            return;
        }
        int p = chance.nextInt(8);
        int light = chance.nextInt(3) == 0 ? chance.nextInt(3) : -1;
        due.is(where + "stick(" + p + ", " + light + ")", x.stick(p, light), y.stick(p, light));
    }

    private static void oddCall(Random chance, String where, Desk x, PlainModel y) {
        int a = ODD[chance.nextInt(ODD.length)];
        int b = ODD[chance.nextInt(ODD.length)];
        int c = ODD[chance.nextInt(ODD.length)];
        switch (chance.nextInt(9)) {
            case 0: due.is(where + "set", x.set(a, b, c), y.set(a, b, c)); break;
            case 1: due.is(where + "mode", x.mode(a, b), y.mode(a, b)); break;
            case 2: due.is(where + "exchange", x.exchange(a, b), y.exchange(a, b)); break;
            case 3: due.is(where + "car", x.car(a, b), y.car(a, b)); break;
            case 4: due.is(where + "push", x.push(a), y.push(a)); break;
            case 5: due.is(where + "run", x.run(a), y.run(a)); break;
            case 6: due.is(where + "of", x.of(a, b), y.of(a, b)); break;
            case 7: due.is(where + "ring", x.ring(a, b), y.ring(a, b)); break;
            default: due.is(where + "state", x.state(a), y.state(a)); break;
        }
    }

    private static void compareAnswer(int question, String where, Desk x, PlainModel y) {
        due.is(where + Answers.name(question), Answers.one(x, question), y.answer(question));
    }
}
