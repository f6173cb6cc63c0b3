/**
 * Promise 3: "The modes of a movement: 1; 0, and nothing is done, when there is none such, or they are
 * not 0 .. 63."
 */
final class P03ModeTest {
    private static final Due due = new Due("promise 3, mode");

    public static void main(String[] args) {
        due.test("movements 0 and 7 are the last ones", P03ModeTest::theLastMovements);
        due.test("no such movement: -1", () -> noSuchMovement(-1));
        due.test("no such movement: 8", () -> noSuchMovement(8));
        due.test("no such movement: the lowest int", () -> noSuchMovement(Integer.MIN_VALUE));
        due.test("no such movement: the highest int", () -> noSuchMovement(Integer.MAX_VALUE));
        due.test("modes 0, the lowest", P03ModeTest::modes0);
        due.test("modes 63, the highest", P03ModeTest::modes63);
        due.test("modes -1", () -> notWithin(-1));
        due.test("modes 64", () -> notWithin(64));
        due.test("modes 69, whose low bits would call", () -> notWithin(69));
        due.test("modes the lowest int", () -> notWithin(Integer.MIN_VALUE));
        due.test("modes the highest int", () -> notWithin(Integer.MAX_VALUE));
        due.test("the same modes again are taken too", P03ModeTest::theSameAgain);
        due.test("other movements keep their modes", P03ModeTest::othersKeepTheirs);
        due.test("bit 1: without it nothing calls", P03ModeTest::bit1);
        due.test("bit 2: without it a call is not remembered", P03ModeTest::bit2);
        due.test("bits 4, 8 and 16 call always, 2 and 32 do not", P03ModeTest::bitsThatCall);
        due.test("bit 8: as if a car stood there", P03ModeTest::bit8);
        due.test("bit 16: for walkers", P03ModeTest::bit16);
        due.test("bit 32: it comes along, if it is used", P03ModeTest::bit32);
        due.end();
    }

    private static void theLastMovements() {
        for (int p : new int[] {0, 7}) {
            Desk x = new Desk();
            due.is("mode(" + p + ", 5)", x.mode(p, 5), 1);
            due.is("called", x.of(p, 2), 1);
            due.is("mode(" + p + ", 1)", x.mode(p, 1), 1);
            due.is("not called any more", x.of(p, 2), 0);
        }
    }

    private static void noSuchMovement(int p) {
        for (int modes : new int[] {0, 3, 5, 63}) {
            Scene.nothingIsDoneAnywhere(due, "mode(" + p + ", " + modes + ")", 0, x -> x.mode(p, modes));
        }
    }

    private static void modes0() {
        for (int p = 0; p < 8; p++) {
            Desk x = new Desk();
            x.push(p);
            due.is("called", x.of(p, 2), 1);
            due.is("mode(" + p + ", 0)", x.mode(p, 0), 1);
            due.is("not used any more", x.of(p, 2), 0);
            x.car(p, 1);
            due.is("nor remembered", x.of(p, 8), 0);
            due.is("run(50)", x.run(50), 0);
        }
    }

    private static void modes63() {
        for (int p = 0; p < 8; p++) {
            Desk x = new Desk();
            x.set(p, 5, 2);
            due.is("mode(" + p + ", 63)", x.mode(p, 63), 1);
            due.is("called", x.of(p, 2), 1);
            due.is("run(1)", x.run(1), 1);
            due.is("walks", x.of(p, 1), 1);
            x.run(9);
            due.is("left as if a car stood there", x.ring(p / 4, 3), 3);
        }
    }

    private static void notWithin(int modes) {
        for (int p = 0; p < 8; p++) {
            int each = p;
            Scene.nothingIsDoneAnywhere(due, "mode(" + p + ", " + modes + ")", 0, x -> x.mode(each, modes));
        }
    }

    private static void theSameAgain() {
        Desk x = new Desk();
        for (int p = 0; p < 8; p++) {
            due.is("mode(" + p + ", 3)", x.mode(p, 3), 1);
            due.is("mode(" + p + ", 3)", x.mode(p, 3), 1);
        }
    }

    private static void othersKeepTheirs() {
        for (int p = 0; p < 8; p++) {
            Desk x = new Desk();
            x.mode(p, 5);
            for (int q = 0; q < 8; q++) {
                due.is("of(" + q + ", 2)", x.of(q, 2), p == q ? 1 : 0);
            }
        }
    }

    private static void bit1() {
        for (int modes = 0; modes < 64; modes++) {
            Desk x = new Desk();
            x.mode(6, 2);
            x.car(6, 1);
            x.push(6);
            due.of(x, 6, 0, 0, 0, 0, 0, 0, 1, 1, 1);
            x.mode(6, modes);
            due.is("called with modes " + modes, x.of(6, 2), modes % 2);
            due.is("greens with modes " + modes, x.run(1), modes % 2);
        }
    }

    private static void bit2() {
        for (int modes = 0; modes < 64; modes++) {
            Desk x = new Desk();
            x.mode(5, modes);
            due.is("car(5, 1)", x.car(5, 1), 1);
            due.is("remembered with modes " + modes, x.of(5, 8), modes / 2 % 2);
        }
    }

    private static void bitsThatCall() {
        for (int modes = 0; modes < 64; modes++) {
            Desk x = new Desk();
            x.mode(3, modes);
            int called = modes % 2 == 1 && (modes & 28) != 0 ? 1 : 0;
            due.is("called with modes " + modes, x.of(3, 2), called);
            due.is("greens with modes " + modes, x.run(1), called);
        }
    }

    private static void bit8() {
        for (int modes = 1; modes < 64; modes += 2) {
            Desk x = new Desk();
            x.push(3);
            x.mode(3, modes);
            x.run(2);
            due.is("left with modes " + modes, x.ring(0, 3), (modes & 8) != 0 ? 3 : 2);
        }
    }

    private static void bit16() {
        for (int modes = 1; modes < 64; modes += 2) {
            Desk x = new Desk();
            x.set(3, 5, 2);
            x.car(3, 1);
            x.mode(3, modes);
            x.run(1);
            due.is("walks with modes " + modes, x.of(3, 1), (modes & 16) != 0 ? 1 : 0);
        }
    }

    private static void bit32() {
        for (int modes = 0; modes < 4; modes++) {
            Desk x = new Desk();
            x.mode(7, modes);
            x.push(2);
            due.is("greens with modes " + modes, x.run(1), 1);
            Desk y = new Desk();
            y.mode(7, modes + 32);
            y.push(2);
            due.is("greens with modes " + (modes + 32), y.run(1), 1 + modes % 2);
        }
    }
}
