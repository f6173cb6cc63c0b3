/** The document once more, as flat as it can be written: what the class is compared with. */
final class PlainModel {
    static final int[] LOWEST = {1, 0, 1, 3, 0, 0, 0};
    static final int[] HIGHEST = {200, 100, 500, 50, 50, 100, 200};
    int[][] times = new int[8][];
    int[] modes = {3, 3, 3, 3, 3, 3, 3, 3};
    int[] car = new int[8];
    int[] remembered = new int[8];
    int[] pushed = new int[8];
    int[] waited = new int[8];
    int[] most = new int[8];
    int[] greens = new int[8];
    int[] stuck = {-1, -1, -1, -1, -1, -1, -1, -1};
    int[][] order = {{0, 1}, {2, 3}, {4, 5}, {6, 7}};
    int[] at = {-1, -1};
    String[] how = {"dark", "dark"};
    int[] age = new int[2];
    int[] left = new int[2];
    int[] pressure = new int[2];
    int[] next = {-1, -1};
    int[] walk = new int[2];
    int[] walkAndClear = new int[2];
    int time;
    int side;
    boolean crossing;
    int crossings;
    int fault;
    java.util.List<int[]> looks = new java.util.ArrayList<>();

    PlainModel() {
        for (int p = 0; p < 8; p++) {
            times[p] = new int[] {5, 3, 30, 4, 2, 0, 0};
        }
    }

    boolean green(int p) {
        return at[p / 4] == p && how[p / 4].equals("green");
    }

    boolean called(int p) {
        boolean asks = car[p] == 1 || remembered[p] == 1 || pushed[p] == 1;
        asks |= (modes[p] & 4) != 0;
        asks |= (modes[p] & 8) != 0;
        asks |= (modes[p] & 16) != 0;
        return (modes[p] & 1) != 0 && !green(p) && asks;
    }

    int walking(int r) {
        if (!how[r].equals("green") || age[r] >= walkAndClear[r]) {
            return 0;
        }
        return age[r] < walk[r] ? 1 : 2;
    }

    boolean mayEnd(int r) {
        if (!how[r].equals("green") || age[r] < times[at[r]][0] || walking(r) != 0) {
            return false;
        }
        return left[r] == 0 || pressure[r] >= times[at[r]][2];
    }

    int firstCalled(int r, int s) {
        for (int p : order[2 * r + s]) {
            if (called(p)) {
                return p;
            }
        }
        return -1;
    }

    void yellow(int r, int then) {
        how[r] = "yellow";
        age[r] = 0;
        next[r] = then;
    }

    int tick() {
        time++;
        if (fault != 0) {
            return 0;
        }
        for (int p = 0; p < 8; p++) {
            waited[p] = called(p) ? waited[p] + 1 : 0;
            most[p] = Math.max(most[p], waited[p]);
        }
        for (int r = 0; r < 2; r++) {
            grow(r);
        }
        for (int r = 0; r < 2; r++) {
            int[] pair = order[2 * r + side];
            if (mayEnd(r) && at[r] == pair[0] && called(pair[1])) {
                yellow(r, pair[1]);
            }
            if (how[r].equals("dark") && next[r] == -1 && !crossing) {
                next[r] = firstCalled(r, side);
            }
        }
        stepFour();
        int began = stepFive();
        look();
        return began;
    }

    void grow(int r) {
        if (how[r].equals("dark")) {
            return;
        }
        int p = at[r];
        age[r]++;
        if (how[r].equals("green")) {
            left[r] = car[p] == 1 || (modes[p] & 8) != 0 ? times[p][1] : left[r] == 0 ? 0 : left[r] - 1;
            boolean others = false;
            for (int q = 0; q < 8; q++) {
                others |= q != p && called(q);
            }
            pressure[r] = others ? pressure[r] + 1 : 0;
        }
        if (how[r].equals("yellow") && age[r] >= times[p][3]) {
            how[r] = "red behind";
            age[r] = 0;
        }
        if (how[r].equals("red behind") && age[r] >= times[p][4]) {
            how[r] = "dark";
        }
    }

    void stepFour() {
        if (crossing) {
            return;
        }
        boolean others = firstCalled(0, 1 - side) != -1 || firstCalled(1, 1 - side) != -1;
        boolean ready = true;
        for (int r = 0; r < 2; r++) {
            ready &= mayEnd(r) || how[r].equals("dark") && next[r] == -1;
        }
        if (others && ready) {
            crossing = true;
            crossings++;
        }
        for (int r = 0; r < 2; r++) {
            int[] pair = order[2 * r + side];
            if (crossing && how[r].equals("green")) {
                yellow(r, -1);
            } else if (!others && mayEnd(r) && at[r] == pair[1] && called(pair[0])) {
                yellow(r, pair[0]);
            }
        }
    }

    int stepFive() {
        if (crossing && how[0].equals("dark") && how[1].equals("dark")) {
            crossing = false;
            side = 1 - side;
            for (int r = 0; r < 2; r++) {
                next[r] = firstCalled(r, side);
                for (int p : order[2 * r + side]) {
                    if (next[r] == -1 && (modes[p] & 33) == 33) {
                        next[r] = p;
                    }
                }
            }
        }
        int began = 0;
        for (int r = 0; r < 2; r++) {
            if (how[r].equals("dark") && next[r] != -1) {
                begin(r, next[r]);
                began++;
            }
        }
        return began;
    }

    void begin(int r, int p) {
        boolean walks = times[p][5] > 0 && (pushed[p] == 1 || (modes[p] & 16) != 0);
        walk[r] = walks ? times[p][5] : 0;
        walkAndClear[r] = walks ? times[p][5] + times[p][6] : 0;
        at[r] = p;
        how[r] = "green";
        age[r] = 0;
        left[r] = times[p][1];
        pressure[r] = 0;
        next[r] = -1;
        remembered[p] = 0;
        pushed[p] = 0;
        greens[p]++;
    }

    int told(int p) {
        boolean mine = at[p / 4] == p;
        return mine && how[p / 4].equals("green") ? 2 : mine && how[p / 4].equals("yellow") ? 1 : 0;
    }

    int light(int p) {
        return fault != 0 ? 3 : stuck[p] != -1 ? stuck[p] : told(p);
    }

    static boolean blocked(int[] seen) {
        for (int p = 0; p < 8; p++) {
            for (int q = 0; q < 8; q++) {
                boolean way = p != q && p / 4 == q / 4 || p % 4 / 2 != q % 4 / 2;
                if (way && seen[p] != 0 && seen[q] != 0) {
                    return true;
                }
            }
        }
        return false;
    }

    void look() {
        int[] now = new int[8];
        for (int p = 0; p < 8; p++) {
            now[p] = light(p);
        }
        int n = looks.size();
        looks.add(now);
        if (n == 0) {
            return;
        }
        int[] last = looks.get(n - 1);
        int found = blocked(now) && blocked(last) ? 1 : 9;
        for (int p = 0; p < 8; p++) {
            if (now[p] == 0 && last[p] == 2) {
                found = Math.min(found, 2);
            }
            int yellows = 0;
            while (yellows < n && looks.get(n - 1 - yellows)[p] == 1) {
                yellows++;
            }
            if (now[p] == 0 && yellows > 0 && yellows < 3) {
                found = Math.min(found, 3);
            }
        }
        fault = found == 9 ? 0 : found;
    }

    int restart() {
        if (fault == 0) {
            return 0;
        }
        for (int r = 0; r < 2; r++) {
            how[r] = "dark";
            next[r] = -1;
        }
        fault = 0;
        crossing = false;
        side = 0;
        looks.clear();
        return 1;
    }

    static boolean in(int value, int below) {
        return value >= 0 && value < below;
    }

    int set(int p, int t, int ticks) {
        if (!in(p, 8) || !in(t, 7) || ticks < LOWEST[t] || ticks > HIGHEST[t]) {
            return 0;
        }
        times[p][t] = ticks;
        return 1;
    }

    int mode(int p, int bits) {
        if (!in(p, 8) || !in(bits, 64)) {
            return 0;
        }
        modes[p] = bits;
        return 1;
    }

    int exchange(int r, int s) {
        if (!in(r, 2) || !in(s, 2)) {
            return 0;
        }
        int[] pair = order[2 * r + s];
        for (int p : pair) {
            if (next[r] == p || at[r] == p && !how[r].equals("dark")) {
                return 0;
            }
        }
        order[2 * r + s] = new int[] {pair[1], pair[0]};
        return 1;
    }

    int car(int p, int is) {
        if (!in(p, 8) || !in(is, 2) || car[p] == is) {
            return 0;
        }
        car[p] = is;
        if (is == 1 && !green(p) && (modes[p] & 2) != 0) {
            remembered[p] = 1;
        }
        return 1;
    }

    int push(int p) {
        if (!in(p, 8) || pushed[p] == 1) {
            return 0;
        }
        pushed[p] = 1;
        return 1;
    }

    int stick(int p, int light) {
        if (!in(p, 8) || !in(light + 1, 4)) {
            return 0;
        }
        stuck[p] = light;
        return 1;
    }

    int run(int ticks) {
        if (!in(ticks, 501)) {
            return -1;
        }
        int began = 0;
        for (int i = 0; i < ticks; i++) {
            began += tick();
        }
        return began;
    }

    int of(int p, int what) {
        if (!in(p, 8) || !in(what, 9)) {
            return -1;
        }
        int walks = at[p / 4] == p ? walking(p / 4) : 0;
        int[] answers = {light(p), walks, called(p) ? 1 : 0, waited[p], most[p], greens[p], car[p], pushed[p],
            remembered[p]};
        return answers[what];
    }

    int ring(int r, int what) {
        if (!in(r, 2) || !in(what, 7)) {
            return -1;
        }
        boolean dark = how[r].equals("dark");
        boolean isGreen = how[r].equals("green");
        int phase = dark ? 0 : isGreen ? 1 : how[r].equals("yellow") ? 2 : 3;
        int[] answers = {dark ? -1 : at[r], phase, dark ? 0 : age[r], isGreen ? left[r] : 0,
            isGreen ? pressure[r] : 0, mayEnd(r) ? 1 : 0, next[r]};
        return answers[what];
    }

    int state(int what) {
        int[] answers = {time, side, crossing ? 1 : 0, fault, crossings};
        return in(what, 5) ? answers[what] : -1;
    }

    int check() {
        int[] lit = new int[8];
        for (int p = 0; p < 8; p++) {
            lit[p] = told(p);
        }
        return blocked(lit) ? 0 : 1;
    }

    /** The questions in the order of Answers. */
    int answer(int question) {
        if (question < Answers.RING) {
            return of(question / 9, question % 9);
        }
        if (question < Answers.TIME) {
            return ring((question - Answers.RING) / 7, (question - Answers.RING) % 7);
        }
        return question < Answers.CHECK ? state(question - Answers.TIME) : check();
    }
}
