/**
 * Promise 4: "The first and the second one of a ring's side are exchanged: 1; 0, and nothing is done,
 * when there is none such, or one of both is the ring's movement or next."
 */
final class P04ExchangeTest {
    private static final Due due = new Due("promise 4, exchange");

    public static void main(String[] args) {
        due.test("rings 0 and 1, sides 0 and 1 are the last ones", P04ExchangeTest::theLastRingsAndSides);
        due.test("no such ring: -1", () -> noSuchRing(-1));
        due.test("no such ring: 2", () -> noSuchRing(2));
        due.test("no such ring: the lowest int", () -> noSuchRing(Integer.MIN_VALUE));
        due.test("no such ring: the highest int", () -> noSuchRing(Integer.MAX_VALUE));
        due.test("no such side: -1", () -> noSuchSide(-1));
        due.test("no such side: 2", () -> noSuchSide(2));
        due.test("no such side: the lowest int", () -> noSuchSide(Integer.MIN_VALUE));
        due.test("no such side: the highest int", () -> noSuchSide(Integer.MAX_VALUE));
        due.test("the first one is green", () -> isTheRings(0, 0));
        due.test("the second one is green", () -> isTheRings(1, 0));
        due.test("the first one is yellow", () -> isTheRings(0, 5));
        due.test("the second one is yellow", () -> isTheRings(1, 5));
        due.test("the first one is red behind", () -> isTheRings(0, 10));
        due.test("the second one is red behind", () -> isTheRings(1, 10));
        due.test("the second one is next", () -> isNext(0));
        due.test("the first one is next", () -> isNext(1));
        due.test("in a flashing desk the ring still has its movement", P04ExchangeTest::whileFlashing);
        due.test("a dark ring has neither, so it is done", P04ExchangeTest::darkRing);
        due.test("the ring's other side is done", P04ExchangeTest::otherSide);
        due.test("the other ring is done", P04ExchangeTest::otherRing);
        due.test("exchanged twice is as before", P04ExchangeTest::twice);
        due.test("the second one comes first", P04ExchangeTest::secondComesFirst);
        due.test("an exchanged second one turns back to its first", P04ExchangeTest::turnsBack);
        due.end();
    }

    private static void theLastRingsAndSides() {
        for (int ring = 0; ring < 2; ring++) {
            for (int side = 0; side < 2; side++) {
                Desk x = new Desk();
                due.is("exchange(" + ring + ", " + side + ")", x.exchange(ring, side), 1);
                for (int p = 0; p < 8; p++) {
                    x.mode(p, 5);
                }
                x.run(1);
                due.is("ring 0 on side 0", x.ring(0, 0), ring == 0 && side == 0 ? 1 : 0);
                due.is("ring 1 on side 0", x.ring(1, 0), ring == 1 && side == 0 ? 5 : 4);
                x.run(22);
                due.is("side", x.state(1), 1);
                due.is("ring 0 on side 1", x.ring(0, 0), ring == 0 && side == 1 ? 3 : 2);
                due.is("ring 1 on side 1", x.ring(1, 0), ring == 1 && side == 1 ? 7 : 6);
            }
        }
    }

    private static void noSuchRing(int ring) {
        for (int side = 0; side < 2; side++) {
            int each = side;
            Scene.nothingIsDoneAnywhere(due, "exchange(" + ring + ", " + side + ")", 0, x -> x.exchange(ring, each));
        }
    }

    private static void noSuchSide(int side) {
        for (int ring = 0; ring < 2; ring++) {
            int each = ring;
            Scene.nothingIsDoneAnywhere(due, "exchange(" + ring + ", " + side + ")", 0, x -> x.exchange(each, side));
        }
    }

    /** The lesser (0) or greater (1) one of each ring and side, so many ticks after its green began. */
    private static void isTheRings(int which, int ticks) {
        for (int lesser = 0; lesser < 8; lesser += 2) {
            int p = lesser + which;
            int ring = p / 4;
            int side = p % 4 / 2;
            Scene scene = Scene.of("movement " + p + " after " + ticks, x -> {
                x.push(p);
                x.run(1);
                x.push(p ^ 2);
                x.run(ticks);
                x.push(p ^ 1);
            });
            int phase = ticks == 0 ? 1 : ticks == 5 ? 2 : 3;
            Desk y = scene.desk();
            due.is("the ring's movement", y.ring(ring, 0), p);
            due.is("how it is", y.ring(ring, 1), phase);
            due.is("next", y.ring(ring, 6), -1);
            scene.nothingIsDone(due, "exchange(" + ring + ", " + side + ")", 0, x -> x.exchange(ring, side));
        }
    }

    private static void isNext(int which) {
        for (int lesser = 0; lesser < 8; lesser += 2) {
            int p = lesser + which;
            int ring = p / 4;
            int side = p % 4 / 2;
            for (int ticks = 5; ticks <= 10; ticks += 5) {
                int each = ticks;
                Scene scene = Scene.of("next to movement " + p + " after " + ticks, x -> {
                    x.push(p);
                    x.run(1);
                    x.push(p ^ 1);
                    x.run(each);
                });
                due.is("next", scene.desk().ring(ring, 6), p ^ 1);
                scene.nothingIsDone(due, "exchange(" + ring + ", " + side + ")", 0, x -> x.exchange(ring, side));
            }
        }
    }

    private static void whileFlashing() {
        due.is("the ring's movement", Scene.FLASHING.desk().ring(0, 0), 0);
        Scene.FLASHING.nothingIsDone(due, "exchange(0, 0)", 0, x -> x.exchange(0, 0));
        Desk y = Scene.FLASHING.desk();
        due.is("exchange(0, 1)", y.exchange(0, 1), 1);
        Desk z = Scene.RESTARTED.desk();
        due.is("restarted: exchange(0, 0)", z.exchange(0, 0), 1);
    }

    private static void darkRing() {
        for (int p = 0; p < 8; p++) {
            Desk x = new Desk();
            x.mode(p ^ 2, 1);
            x.push(p);
            x.run(1);
            x.car(p ^ 2, 1);
            x.run(5);
            x.car(p ^ 2, 0);
            x.run(5);
            due.is("red behind", x.ring(p / 4, 1), 3);
            due.is("exchange", x.exchange(p / 4, p % 4 / 2), 0);
            x.run(1);
            due.is("dark", x.ring(p / 4, 1), 0);
            due.is("exchange", x.exchange(p / 4, p % 4 / 2), 1);
        }
    }

    private static void otherSide() {
        for (int p = 0; p < 8; p++) {
            Desk x = new Desk();
            x.push(p);
            x.run(1);
            int side = 1 - p % 4 / 2;
            int first = p / 4 * 4 + 2 * side;
            due.is("exchange(" + p / 4 + ", " + side + ")", x.exchange(p / 4, side), 1);
            x.push(first);
            x.push(first + 1);
            x.run(11);
            due.is("the ring's movement", x.ring(p / 4, 0), first + 1);
        }
    }

    private static void otherRing() {
        for (int p = 0; p < 8; p++) {
            Desk x = new Desk();
            x.push(p);
            x.run(1);
            int ring = 1 - p / 4;
            int side = p % 4 / 2;
            int first = ring * 4 + 2 * side;
            due.is("exchange(" + ring + ", " + side + ")", x.exchange(ring, side), 1);
            x.push(first);
            x.push(first + 1);
            x.run(1);
            due.is("the ring's movement", x.ring(ring, 0), first + 1);
        }
    }

    private static void twice() {
        for (int first = 0; first < 8; first += 2) {
            Desk x = new Desk();
            int ring = first / 4;
            int side = first % 4 / 2;
            due.is("once", x.exchange(ring, side), 1);
            due.is("twice", x.exchange(ring, side), 1);
            x.push(first);
            x.push(first + 1);
            x.run(1);
            due.is("the ring's movement", x.ring(ring, 0), first);
        }
    }

    private static void secondComesFirst() {
        Desk x = new Desk();
        x.exchange(0, 0);
        x.push(0);
        x.push(1);
        x.run(1);
        due.is("the ring's movement", x.ring(0, 0), 1);
        x.run(5);
        due.ring(x, 0, 1, 2, 0, 0, 0, 0, 0);
    }

    private static void turnsBack() {
        Desk x = new Desk();
        x.exchange(0, 0);
        x.push(0);
        x.run(1);
        x.push(1);
        x.push(2);
        x.car(4, 1);
        x.run(20);
        due.ring(x, 0, 0, 1, 20, 0, 20, 1, -1);
        Desk y = new Desk();
        y.exchange(0, 0);
        y.push(0);
        y.run(1);
        y.push(1);
        y.run(5);
        due.ring(y, 0, 0, 2, 0, 0, 0, 0, 1);
    }
}
