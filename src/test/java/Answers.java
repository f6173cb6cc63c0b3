/** What all questions answer at one moment: of, ring, state and check, in a fixed order. */
final class Answers {
    static final int RING = 8 * 9;
    static final int TIME = RING + 2 * 7;
    static final int CHECK = TIME + 5;
    static final int COUNT = CHECK + 1;

    private Answers() {
    }

    static int one(Desk x, int question) {
        if (question < RING) {
            return x.of(question / 9, question % 9);
        }
        if (question < TIME) {
            return x.ring((question - RING) / 7, (question - RING) % 7);
        }
        return question < CHECK ? x.state(question - TIME) : x.check();
    }

    static int[] all(Desk x) {
        int[] answers = new int[COUNT];
        for (int question = 0; question < COUNT; question++) {
            answers[question] = one(x, question);
        }
        return answers;
    }

    static String name(int question) {
        if (question < RING) {
            return "of(" + question / 9 + ", " + question % 9 + ")";
        }
        if (question < TIME) {
            return "ring(" + (question - RING) / 7 + ", " + (question - RING) % 7 + ")";
        }
        return question < CHECK ? "state(" + (question - TIME) + ")" : "check()";
    }

    /** The names are built only for what is wrong: these comparisons are many. */
    static void same(Due due, String where, int[] got, int[] want) {
        due.is(where + "the number of answers", got.length, want.length);
        for (int question = 0; question < want.length; question++) {
            if (got[question] != want[question]) {
                due.is(where + name(question), got[question], want[question]);
            }
        }
    }
}
