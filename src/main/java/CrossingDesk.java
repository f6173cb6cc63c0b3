public final class CrossingDesk {
    public static final int NONE = -1;

    private static final int MOVEMENTS = 8;
    private static final int RINGS = 2;
    private static final int SIDES = 2;
    private static final int MOST_TICKS = 500;

    private static final int LEAST_GREEN = 0;
    private static final int GAP = 1;
    private static final int MOST_GREEN = 2;
    private static final int YELLOW_TIME = 3;
    private static final int RED_BEHIND_TIME = 4;
    private static final int WALK = 5;
    private static final int CLEARING = 6;
    private static final int TIMES = 7;
    private static final int[] LOWEST = {1, 0, 1, 3, 0, 0, 0};
    private static final int[] HIGHEST = {200, 100, 500, 50, 50, 100, 200};
    private static final int[] AT_FIRST = {5, 3, 30, 4, 2, 0, 0};

    private static final int USED = 1;
    private static final int REMEMBERS = 2;
    private static final int ALWAYS = 4;
    private static final int AS_IF_CAR = 8;
    private static final int FOR_WALKERS = 16;
    private static final int COMES_ALONG = 32;
    private static final int ALL_MODES = 63;

    private static final int DARK = 0;
    private static final int GREEN = 1;
    private static final int YELLOW = 2;
    private static final int RED_BEHIND = 3;

    private static final int RED_LIGHT = 0;
    private static final int YELLOW_LIGHT = 1;
    private static final int GREEN_LIGHT = 2;
    private static final int FLASHING_LIGHT = 3;

    private static final int NO_FAULT = 0;
    private static final int IN_THE_WAY = 1;
    private static final int GREEN_TO_RED = 2;
    private static final int SHORT_YELLOW = 3;
    private static final int LEAST_YELLOW_LOOKS = 3;

    private final Movement[] movements;
    private final Ring[] rings;
    private final Guard guard;
    private final int[] lights;
    private int time;
    private int side;
    private boolean crossing;
    private int crossings;

    public CrossingDesk() {
        movements = new Movement[MOVEMENTS];
        for (int p = 0; p < MOVEMENTS; p++) {
            movements[p] = new Movement();
        }
        rings = new Ring[RINGS];
        for (int r = 0; r < RINGS; r++) {
            rings[r] = new Ring(4 * r);
        }
        guard = new Guard();
        lights = new int[MOVEMENTS];
    }

    public int set(int p, int time, int ticks) {
        if (!isMovement(p) || time < 0 || time >= TIMES) {
            return 0;
        }
        if (ticks < LOWEST[time] || ticks > HIGHEST[time]) {
            return 0;
        }
        movements[p].times[time] = ticks;
        return 1;
    }

    public int mode(int p, int modes) {
        if (!isMovement(p) || modes < 0 || modes > ALL_MODES) {
            return 0;
        }
        movements[p].modes = modes;
        return 1;
    }

    public int exchange(int ring, int side) {
        if (!isRing(ring) || side < 0 || side >= SIDES) {
            return 0;
        }
        Ring changed = rings[ring];
        if (changed.isBusyWith(changed.first(side)) || changed.isBusyWith(changed.second(side))) {
            return 0;
        }
        changed.exchanged[side] = !changed.exchanged[side];
        return 1;
    }

    public int car(int p, int is) {
        if (!isMovement(p) || is < 0 || is > 1) {
            return 0;
        }
        Movement movement = movements[p];
        boolean comes = is == 1;
        if (movement.car == comes) {
            return 0;
        }
        movement.car = comes;
        if (comes && movement.has(REMEMBERS) && !isGreen(p)) {
            movement.remembered = true;
        }
        return 1;
    }

    public int push(int p) {
        if (!isMovement(p) || movements[p].pushed) {
            return 0;
        }
        movements[p].pushed = true;
        return 1;
    }

    public int stick(int p, int light) {
        if (!isMovement(p) || light < NONE || light > GREEN_LIGHT) {
            return 0;
        }
        movements[p].stuck = light;
        return 1;
    }

    public int run(int ticks) {
        if (ticks < 0 || ticks > MOST_TICKS) {
            return NONE;
        }
        int began = 0;
        for (int i = 0; i < ticks; i++) {
            began += tick();
        }
        return began;
    }

    public int restart() {
        if (!isFlashing()) {
            return 0;
        }
        for (int r = 0; r < RINGS; r++) {
            rings[r].goDark();
            rings[r].next = NONE;
        }
        crossing = false;
        side = 0;
        guard.forget();
        return 1;
    }

    public int of(int p, int what) {
        if (!isMovement(p)) {
            return NONE;
        }
        Movement movement = movements[p];
        switch (what) {
            case 0: return isFlashing() ? FLASHING_LIGHT : shownLight(p);
            case 1: return isGreen(p) ? rings[ringOf(p)].walking() : 0;
            case 2: return number(isCalled(p));
            case 3: return movement.waited;
            case 4: return movement.longestWait;
            case 5: return movement.greens;
            case 6: return number(movement.car);
            case 7: return number(movement.pushed);
            case 8: return number(movement.remembered);
            default: return NONE;
        }
    }

    public int ring(int r, int what) {
        if (!isRing(r)) {
            return NONE;
        }
        Ring asked = rings[r];
        switch (what) {
            case 0: return asked.movement;
            case 1: return asked.phase;
            case 2: return asked.age;
            case 3: return asked.left;
            case 4: return asked.pressure;
            case 5: return number(mayEnd(asked));
            case 6: return asked.next;
            default: return NONE;
        }
    }

    public int state(int what) {
        switch (what) {
            case 0: return time;
            case 1: return side;
            case 2: return number(crossing);
            case 3: return guard.fault;
            case 4: return crossings;
            default: return NONE;
        }
    }

    public int check() {
        for (int p = 0; p < MOVEMENTS; p++) {
            lights[p] = toldLight(p);
        }
        return number(!anyInTheWay(lights));
    }

    private int tick() {
        time++;
        if (isFlashing()) {
            return 0;
        }
        countWaits();
        advanceRings();
        for (int r = 0; r < RINGS; r++) {
            goOnWithinSide(rings[r]);
        }
        leaveSideOrTurnBack();
        if (crossing && rings[0].phase == DARK && rings[1].phase == DARK) {
            endCrossing();
        }
        int began = beginGreens();
        showLightsToGuard();
        return began;
    }

    private void countWaits() {
        for (int p = 0; p < MOVEMENTS; p++) {
            movements[p].countWait(isCalled(p));
        }
    }

    private void advanceRings() {
        // A green movement is never called, so "any other" is the same as "any".
        boolean anyCalled = isAnyCalledOn(0) || isAnyCalledOn(1);
        for (int r = 0; r < RINGS; r++) {
            Ring ring = rings[r];
            if (ring.phase == GREEN) {
                ring.advanceGreen(movements[ring.movement], anyCalled);
            } else if (ring.phase != DARK) {
                ring.advanceEnding(movements[ring.movement]);
            }
        }
    }

    private void goOnWithinSide(Ring ring) {
        int second = ring.second(side);
        if (mayEnd(ring) && ring.movement == ring.first(side) && isCalled(second)) {
            ring.endGreen(second);
        }
        if (isIdle(ring) && !crossing) {
            ring.next = calledOn(ring, side);
        }
    }

    private void leaveSideOrTurnBack() {
        if (crossing) {
            return;
        }
        if (!isAnyCalledOn(1 - side)) {
            for (int r = 0; r < RINGS; r++) {
                turnBackToFirst(rings[r]);
            }
        } else if (isReady(rings[0]) && isReady(rings[1])) {
            beginCrossing();
        }
    }

    private void turnBackToFirst(Ring ring) {
        int first = ring.first(side);
        if (mayEnd(ring) && ring.movement == ring.second(side) && isCalled(first)) {
            ring.endGreen(first);
        }
    }

    private void beginCrossing() {
        crossing = true;
        crossings++;
        for (int r = 0; r < RINGS; r++) {
            if (rings[r].phase == GREEN) {
                rings[r].endGreen(NONE);
            }
        }
    }

    private void endCrossing() {
        crossing = false;
        side = 1 - side;
        for (int r = 0; r < RINGS; r++) {
            Ring ring = rings[r];
            int called = calledOn(ring, side);
            ring.next = called != NONE ? called : comingAlongOn(ring, side);
        }
    }

    private int beginGreens() {
        int began = 0;
        for (int r = 0; r < RINGS; r++) {
            Ring ring = rings[r];
            if (ring.phase == DARK && ring.next != NONE) {
                Movement movement = movements[ring.next];
                // The ring must see the push before the movement forgets it.
                ring.beginGreen(movement);
                movement.beginGreen();
                began++;
            }
        }
        return began;
    }

    private void showLightsToGuard() {
        for (int p = 0; p < MOVEMENTS; p++) {
            lights[p] = shownLight(p);
        }
        guard.look(lights);
    }

    private int calledOn(Ring ring, int onSide) {
        if (isCalled(ring.first(onSide))) {
            return ring.first(onSide);
        }
        return isCalled(ring.second(onSide)) ? ring.second(onSide) : NONE;
    }

    private int comingAlongOn(Ring ring, int onSide) {
        if (movements[ring.first(onSide)].comesAlong()) {
            return ring.first(onSide);
        }
        return movements[ring.second(onSide)].comesAlong() ? ring.second(onSide) : NONE;
    }

    private boolean isAnyCalledOn(int onSide) {
        for (int p = 0; p < MOVEMENTS; p++) {
            if (sideOf(p) == onSide && isCalled(p)) {
                return true;
            }
        }
        return false;
    }

    private boolean isCalled(int p) {
        return movements[p].isWanted() && !isGreen(p);
    }

    private boolean isGreen(int p) {
        Ring ring = rings[ringOf(p)];
        return ring.movement == p && ring.phase == GREEN;
    }

    private boolean mayEnd(Ring ring) {
        return ring.phase == GREEN && ring.mayEndGreen(movements[ring.movement].times);
    }

    private boolean isReady(Ring ring) {
        return mayEnd(ring) || isIdle(ring);
    }

    private boolean isFlashing() {
        return guard.fault != NO_FAULT;
    }

    private int toldLight(int p) {
        Ring ring = rings[ringOf(p)];
        if (ring.movement != p) {
            return RED_LIGHT;
        }
        if (ring.phase == GREEN) {
            return GREEN_LIGHT;
        }
        return ring.phase == YELLOW ? YELLOW_LIGHT : RED_LIGHT;
    }

    private int shownLight(int p) {
        int stuck = movements[p].stuck;
        return stuck != NONE ? stuck : toldLight(p);
    }

    private static boolean isIdle(Ring ring) {
        return ring.phase == DARK && ring.next == NONE;
    }

    private static boolean isMovement(int p) {
        return p >= 0 && p < MOVEMENTS;
    }

    private static boolean isRing(int r) {
        return r >= 0 && r < RINGS;
    }

    private static int number(boolean yes) {
        return yes ? 1 : 0;
    }

    private static int ringOf(int p) {
        return p / 4;
    }

    private static int sideOf(int p) {
        return p % 4 / 2;
    }

    private static boolean areInWay(int p, int q) {
        return p != q && ringOf(p) == ringOf(q) || sideOf(p) != sideOf(q);
    }

    private static boolean anyInTheWay(int[] shown) {
        for (int p = 0; p < MOVEMENTS; p++) {
            for (int q = p + 1; q < MOVEMENTS; q++) {
                if (shown[p] != RED_LIGHT && shown[q] != RED_LIGHT && areInWay(p, q)) {
                    return true;
                }
            }
        }
        return false;
    }

    private static final class Movement {
        final int[] times;
        int modes;
        boolean car;
        boolean remembered;
        boolean pushed;
        int waited;
        int longestWait;
        int greens;
        int stuck;

        Movement() {
            times = AT_FIRST.clone();
            modes = USED | REMEMBERS;
            stuck = NONE;
        }

        boolean has(int anyOfModes) {
            return (modes & anyOfModes) != 0;
        }

        boolean isWanted() {
            boolean asked = car || remembered || pushed;
            return has(USED) && (asked || has(ALWAYS | AS_IF_CAR | FOR_WALKERS));
        }

        boolean comesAlong() {
            return has(USED) && has(COMES_ALONG);
        }

        boolean wouldWalk() {
            return times[WALK] > 0 && (pushed || has(FOR_WALKERS));
        }

        void countWait(boolean called) {
            waited = called ? waited + 1 : 0;
            longestWait = Math.max(longestWait, waited);
        }

        void beginGreen() {
            remembered = false;
            pushed = false;
            greens++;
        }
    }

    private static final class Ring {
        final int lowest;
        final boolean[] exchanged;
        int movement;
        int phase;
        int age;
        int left;
        int pressure;
        int next;
        int walkLeft;
        int clearingLeft;

        Ring(int lowestMovement) {
            lowest = lowestMovement;
            exchanged = new boolean[SIDES];
            movement = NONE;
            phase = DARK;
            next = NONE;
        }

        int first(int side) {
            return lowest + 2 * side + (exchanged[side] ? 1 : 0);
        }

        int second(int side) {
            return lowest + 2 * side + (exchanged[side] ? 0 : 1);
        }

        boolean isBusyWith(int p) {
            return movement == p || next == p;
        }

        int walking() {
            if (walkLeft > 0) {
                return 1;
            }
            return clearingLeft > 0 ? 2 : 0;
        }

        boolean mayEndGreen(int[] times) {
            boolean longEnough = age >= times[LEAST_GREEN] && walking() == 0;
            return longEnough && (left == 0 || pressure >= times[MOST_GREEN]);
        }

        void beginGreen(Movement begun) {
            enter(GREEN);
            movement = next;
            next = NONE;
            left = begun.times[GAP];
            if (begun.wouldWalk()) {
                walkLeft = begun.times[WALK];
                clearingLeft = begun.times[CLEARING];
            }
        }

        void advanceGreen(Movement green, boolean othersCalled) {
            age++;
            if (green.car || green.has(AS_IF_CAR)) {
                left = green.times[GAP];
            } else {
                left = Math.max(left - 1, 0);
            }
            pressure = othersCalled ? pressure + 1 : 0;
            if (walkLeft > 0) {
                walkLeft--;
            } else if (clearingLeft > 0) {
                clearingLeft--;
            }
        }

        void endGreen(int nextMovement) {
            enter(YELLOW);
            next = nextMovement;
        }

        void advanceEnding(Movement ending) {
            age++;
            if (phase == YELLOW && age >= ending.times[YELLOW_TIME]) {
                enter(RED_BEHIND);
            }
            // Not an else: a red behind of 0 ticks is over in the tick that begins it.
            if (phase == RED_BEHIND && age >= ending.times[RED_BEHIND_TIME]) {
                goDark();
            }
        }

        void goDark() {
            enter(DARK);
            movement = NONE;
        }

        private void enter(int newPhase) {
            phase = newPhase;
            age = 0;
            left = 0;
            pressure = 0;
            walkLeft = 0;
            clearingLeft = 0;
        }
    }

    private static final class Guard {
        final int[] lastSeen;
        final int[] yellowLooks;
        boolean wayWasBlocked;
        int fault;

        Guard() {
            lastSeen = new int[MOVEMENTS];
            yellowLooks = new int[MOVEMENTS];
        }

        // Red without a yellow look accuses nobody, so it stands for "seen nothing".
        void forget() {
            for (int p = 0; p < MOVEMENTS; p++) {
                lastSeen[p] = RED_LIGHT;
                yellowLooks[p] = 0;
            }
            wayWasBlocked = false;
            fault = NO_FAULT;
        }

        void look(int[] shown) {
            boolean blocked = anyInTheWay(shown);
            fault = leastFault(shown, blocked);
            wayWasBlocked = blocked;
            for (int p = 0; p < MOVEMENTS; p++) {
                lastSeen[p] = shown[p];
                yellowLooks[p] = shown[p] == YELLOW_LIGHT ? yellowLooks[p] + 1 : 0;
            }
        }

        private int leastFault(int[] shown, boolean blocked) {
            if (blocked && wayWasBlocked) {
                return IN_THE_WAY;
            }
            int found = NO_FAULT;
            for (int p = 0; p < MOVEMENTS; p++) {
                if (shown[p] == RED_LIGHT && lastSeen[p] == GREEN_LIGHT) {
                    return GREEN_TO_RED;
                }
                if (shown[p] == RED_LIGHT && hadShortYellow(p)) {
                    found = SHORT_YELLOW;
                }
            }
            return found;
        }

        private boolean hadShortYellow(int p) {
            return lastSeen[p] == YELLOW_LIGHT && yellowLooks[p] < LEAST_YELLOW_LOOKS;
        }
    }
}
