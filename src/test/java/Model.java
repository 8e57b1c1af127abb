import java.util.ArrayDeque;
import java.util.ArrayList;
import java.util.List;

/** The document once more, written plainly and without thrift: what DippedWaves answers is held against it. */
final class Model {
    static final int NO_SUCH = -1, BAD_VALUE = -2, BAD_TEXT = -3, TOO_MANY = -4, NOT_POSSIBLE = -5, NONE = -6;

    private static final class Dipper {
        int x, y, period, size, shift;

        boolean down(int t) {
            return (t + shift) % period < period / 2;
        }
    }

    private static final class Probe {
        int x, y;
        List<Integer> kept = new ArrayList<>();
    }

    private static final class State {
        int rub = 10, deep = 8, shallow = 3, still = 5, tick = 0;
        int[][] floor = new int[10][6];
        int[][] now = new int[10][6];
        int[][] ahead = new int[10][6];
        Integer[][] first = new Integer[10][6];
        List<Dipper> dippers = new ArrayList<>();
        List<Probe> probes = new ArrayList<>();

        State copy() {
            State s = new State();
            s.rub = rub;
            s.deep = deep;
            s.shallow = shallow;
            s.still = still;
            s.tick = tick;
            for (int x = 0; x < 10; x++) {
                s.floor[x] = floor[x].clone();
                s.now[x] = now[x].clone();
                s.ahead[x] = ahead[x].clone();
                s.first[x] = first[x].clone();
            }
            for (Dipper d : dippers) {
                Dipper e = new Dipper();
                e.x = d.x;
                e.y = d.y;
                e.period = d.period;
                e.size = d.size;
                e.shift = d.shift;
                s.dippers.add(e);
            }
            for (Probe p : probes) {
                Probe q = new Probe();
                q.x = p.x;
                q.y = p.y;
                q.kept = new ArrayList<>(p.kept);
                s.probes.add(q);
            }
            return s;
        }

        boolean water(int x, int y) {
            return inTank(x, y) && floor[x][y] != 2;
        }

        int slope(int x, int y) {
            int slope = 0;
            int[][] sides = {{0, -1}, {0, 1}, {-1, 0}, {1, 0}};
            for (int[] side : sides) {
                int u = x + side[0];
                int v = y + side[1];
                if (water(x, y) && water(u, v)) {
                    slope += now[u][v] - now[x][y];
                }
            }
            return slope;
        }

        void tickOnce() {
            int[][] next = new int[10][6];
            for (int x = 0; x < 10; x++) {
                for (int y = 0; y < 6; y++) {
                    if (!water(x, y)) {
                        continue;
                    }
                    int speed = floor[x][y] == 0 ? deep : shallow;
                    int h = 2 * now[x][y] - ahead[x][y] + slope(x, y) * speed / 16;
                    h = h - h * rub / 1000;
                    if (floor[x][y] == 3) {
                        h = h / 2;
                    }
                    if (h < -9999) {
                        h = -9999;
                    }
                    if (h > 9999) {
                        h = 9999;
                    }
                    for (Dipper d : dippers) {
                        if (d.x == x && d.y == y) {
                            h = d.down(tick) ? -d.size : d.size;
                        }
                    }
                    next[x][y] = h;
                    if (first[x][y] == null && Math.abs(h) > still) {
                        first[x][y] = tick;
                    }
                }
            }
            ahead = now;
            now = next;
            for (Probe p : probes) {
                p.kept.add(0, now[p.x][p.y]);
                if (p.kept.size() > 24) {
                    p.kept.remove(24);
                }
            }
            tick++;
        }

        boolean quiet(int x, int y) {
            return Math.abs(now[x][y]) <= still && Math.abs(ahead[x][y]) <= still;
        }

        void flatten() {
            now = new int[10][6];
            ahead = new int[10][6];
            first = new Integer[10][6];
            tick = 0;
            for (Probe p : probes) {
                p.kept.clear();
            }
        }
    }

    private State s = new State();
    private final ArrayDeque<State> history = new ArrayDeque<>();
    private final State[] slots = new State[2];
    private String pad = "";

    private static boolean inTank(int x, int y) {
        return x >= 0 && x < 10 && y >= 0 && y < 6;
    }

    private void change() {
        history.addLast(s.copy());
        if (history.size() > 6) {
            history.removeFirst();
        }
    }

    int set(int setting, int value) {
        int previous;
        switch (setting) {
            case 0:
                if (value < 0 || value > 500) {
                    return BAD_VALUE;
                }
                change();
                previous = s.rub;
                s.rub = value;
                return previous;
            case 1:
                if (value < 1 || value > 8) {
                    return BAD_VALUE;
                }
                change();
                previous = s.deep;
                s.deep = value;
                return previous;
            case 2:
                if (value < 1 || value > 8) {
                    return BAD_VALUE;
                }
                change();
                previous = s.shallow;
                s.shallow = value;
                return previous;
            case 3:
                if (value < 0 || value > 500) {
                    return BAD_VALUE;
                }
                change();
                previous = s.still;
                s.still = value;
                return previous;
            default:
                return BAD_VALUE;
        }
    }

    int floor(int x, int y, int floor) {
        if (!inTank(x, y)) {
            return NO_SUCH;
        }
        if (floor < 0 || floor > 3) {
            return BAD_VALUE;
        }
        if (floor == 2 && cell(x, y, 6) != NONE) {
            return NOT_POSSIBLE;
        }
        change();
        int previous = s.floor[x][y];
        s.floor[x][y] = floor;
        if (floor == 2) {
            s.now[x][y] = 0;
            s.ahead[x][y] = 0;
        }
        return previous;
    }

    int read() {
        if (fault() != NONE) {
            return BAD_TEXT;
        }
        change();
        String[] rows = pad.split("/");
        for (int y = 0; y < 6; y++) {
            for (int x = 0; x < 10; x++) {
                char c = rows[y].charAt(x);
                s.floor[x][y] = c == '.' ? 0 : c == '-' ? 1 : c == '#' ? 2 : 3;
            }
        }
        pad = "";
        s.dippers.clear();
        s.probes.clear();
        s.flatten();
        return count(1);
    }

    int clear() {
        change();
        int sum = count(4);
        s.flatten();
        return sum;
    }

    int dip(int x, int y, int period, int size, int shift) {
        if (!inTank(x, y)) {
            return NO_SUCH;
        }
        if (period < 2 || period > 40 || size < 1 || size > 900 || shift < 0 || shift >= period) {
            return BAD_VALUE;
        }
        if (s.floor[x][y] == 2) {
            return NOT_POSSIBLE;
        }
        if (s.dippers.size() == 5) {
            return TOO_MANY;
        }
        change();
        Dipper d = new Dipper();
        d.x = x;
        d.y = y;
        d.period = period;
        d.size = size;
        d.shift = shift;
        s.dippers.add(d);
        return s.dippers.size() - 1;
    }

    int takeOut(int dipper) {
        if (dipper < 0 || dipper >= s.dippers.size()) {
            return NO_SUCH;
        }
        change();
        s.dippers.remove(dipper);
        return s.dippers.size();
    }

    int drop(int x, int y, int by) {
        if (!inTank(x, y)) {
            return NO_SUCH;
        }
        if (by < -999 || by > 999) {
            return BAD_VALUE;
        }
        if (s.floor[x][y] == 2) {
            return NOT_POSSIBLE;
        }
        change();
        s.now[x][y] = Math.min(9999, Math.max(-9999, s.now[x][y] + by));
        return s.now[x][y] + 10000;
    }

    int probe(int x, int y) {
        if (!inTank(x, y)) {
            return NO_SUCH;
        }
        if (s.probes.size() == 3) {
            return TOO_MANY;
        }
        change();
        Probe p = new Probe();
        p.x = x;
        p.y = y;
        s.probes.add(p);
        return s.probes.size() - 1;
    }

    int pass(int ticks) {
        if (ticks < 1 || ticks > 100) {
            return BAD_VALUE;
        }
        if (s.tick + ticks > 100000) {
            return TOO_MANY;
        }
        change();
        for (int i = 0; i < ticks; i++) {
            s.tickOnce();
        }
        return count(1) - count(2);
    }

    int cell(int x, int y, int what) {
        if (!inTank(x, y)) {
            return NO_SUCH;
        }
        switch (what) {
            case 0:
                return s.floor[x][y];
            case 1:
                return s.now[x][y] + 10000;
            case 2:
                return s.ahead[x][y] + 10000;
            case 3:
                return s.slope(x, y) + 100000;
            case 4:
                return s.quiet(x, y) ? 1 : 0;
            case 5:
                return s.first[x][y] == null ? NONE : s.first[x][y];
            case 6:
                int found = NONE;
                for (int i = 0; i < s.dippers.size(); i++) {
                    if (s.dippers.get(i).x == x && s.dippers.get(i).y == y) {
                        found = i;
                    }
                }
                return found;
            default:
                return BAD_VALUE;
        }
    }

    int dipper(int dipper, int what) {
        if (dipper < 0 || dipper >= s.dippers.size()) {
            return NO_SUCH;
        }
        Dipper d = s.dippers.get(dipper);
        int[] about = {d.x, d.y, d.period, d.size, d.shift, d.down(s.tick) ? 0 : 1};
        return what < 0 || what >= about.length ? BAD_VALUE : about[what];
    }

    int ofProbe(int probe, int what) {
        if (probe < 0 || probe >= s.probes.size()) {
            return NO_SUCH;
        }
        Probe p = s.probes.get(probe);
        int greatest = NONE;
        for (int h : p.kept) {
            greatest = Math.max(greatest, h + 10000);
        }
        int[] about = {p.x, p.y, p.kept.size(), beat(p), greatest};
        return what < 0 || what >= about.length ? BAD_VALUE : about[what];
    }

    private static int beat(Probe p) {
        int best = NONE;
        int least = Integer.MAX_VALUE;
        for (int lag = 2; lag <= 12 && p.kept.size() == 24; lag++) {
            int sum = 0;
            for (int k = 0; k <= 11; k++) {
                sum += Math.abs(p.kept.get(k) - p.kept.get(k + lag));
            }
            if (sum < least) {
                least = sum;
                best = lag;
            }
        }
        return best;
    }

    int seen(int probe, int ago) {
        if (probe < 0 || probe >= s.probes.size() || ago < 0 || ago >= s.probes.get(probe).kept.size()) {
            return NO_SUCH;
        }
        return s.probes.get(probe).kept.get(ago) + 10000;
    }

    int count(int what) {
        int cells = 0, still = 0, sum = 0, loud = 0, most = 0, reached = 0;
        for (int x = 0; x < 10; x++) {
            for (int y = 0; y < 6; y++) {
                int h = s.now[x][y];
                cells += s.water(x, y) ? 1 : 0;
                still += s.water(x, y) && s.quiet(x, y) ? 1 : 0;
                sum += h;
                loud += Math.abs(h);
                most = Math.max(most, Math.abs(h));
                reached += s.first[x][y] == null ? 0 : 1;
            }
        }
        int[] about = {
            s.tick, cells, still, sum + 1000000, loud, most, reached, s.dippers.size(), s.probes.size(),
            s.rub, s.deep, s.shallow, s.still, pad.length(), history.size()};
        return what < 0 || what >= about.length ? BAD_VALUE : about[what];
    }

    int loudest(int which) {
        if (which != 0 && which != 1) {
            return BAD_VALUE;
        }
        int most = count(5);
        for (int y = 0; y < 6 && most > 0; y++) {
            for (int x = 0; x < 10; x++) {
                if (Math.abs(s.now[x][y]) == most) {
                    return which == 0 ? x : y;
                }
            }
        }
        return NONE;
    }

    int crests(int y) {
        if (y < 0 || y > 5) {
            return NO_SUCH;
        }
        int many = 0;
        for (int x = 0; x < 10; x++) {
            int left = s.water(x - 1, y) ? s.now[x - 1][y] : 0;
            int right = s.water(x + 1, y) ? s.now[x + 1][y] : 0;
            int h = s.now[x][y];
            if (s.water(x, y) && h > 0 && h > left && h > right) {
                many++;
            }
        }
        return many;
    }

    int ifPassed(int x, int y, int ticks) {
        if (!inTank(x, y)) {
            return NO_SUCH;
        }
        if (ticks < 1 || ticks > 60) {
            return BAD_VALUE;
        }
        return later(s.copy(), ticks).now[x][y] + 10000;
    }

    private static State later(State state, int ticks) {
        for (int i = 0; i < ticks; i++) {
            state.tickOnce();
        }
        return state;
    }

    int comes(int x, int y) {
        if (!inTank(x, y)) {
            return NO_SUCH;
        }
        if (!s.quiet(x, y)) {
            return NOT_POSSIBLE;
        }
        State state = s.copy();
        int ticks = 0;
        while (ticks < 80 && state.quiet(x, y)) {
            state.tickOnce();
            ticks++;
        }
        return state.quiet(x, y) ? NONE : ticks;
    }

    int hush(int dipper, int x, int y, int ticks, int what) {
        if (dipper < 0 || dipper >= s.dippers.size() || !inTank(x, y)) {
            return NO_SUCH;
        }
        if (ticks < 1 || ticks > 30 || what < 0 || what > 1) {
            return BAD_VALUE;
        }
        int best = 0;
        int least = 20000;
        for (int shift = 0; shift < s.dippers.get(dipper).period; shift++) {
            State state = s.copy();
            state.dippers.get(dipper).shift = shift;
            int height = Math.abs(later(state, ticks).now[x][y]);
            if (height < least) {
                least = height;
                best = shift;
            }
        }
        return what == 0 ? best : least;
    }

    int put(long characters) {
        String text = "";
        boolean ended = false;
        for (int i = 0; i < 8; i++) {
            int code = (int) (characters >> 8 * i) & 255;
            if (code == 0) {
                ended = true;
            } else if (ended || code < 33 || code > 126) {
                return BAD_VALUE;
            } else {
                text = (char) code + text;
            }
        }
        if (text.isEmpty()) {
            return BAD_VALUE;
        }
        if (pad.length() + text.length() > 72) {
            return TOO_MANY;
        }
        pad = pad + text;
        return pad.length();
    }

    int wipe() {
        int length = pad.length();
        pad = "";
        return length;
    }

    int fault() {
        String row = "[-.#~]{10}";
        if (pad.matches(row + "(/" + row + "){5}")) {
            return NONE;
        }
        int at = 0;
        while (at < pad.length() && at < 65 && (at % 11 == 10 ? "/" : ".-#~").indexOf(pad.charAt(at)) >= 0) {
            at++;
        }
        return at;
    }

    int undo() {
        if (history.isEmpty()) {
            return NOT_POSSIBLE;
        }
        s = history.removeLast();
        return history.size();
    }

    int save(int slot) {
        if (slot < 0 || slot > 1) {
            return BAD_VALUE;
        }
        slots[slot] = s.copy();
        return s.tick;
    }

    int restore(int slot) {
        if (slot < 0 || slot > 1) {
            return BAD_VALUE;
        }
        if (slots[slot] == null) {
            return NOT_POSSIBLE;
        }
        change();
        s = slots[slot].copy();
        return s.tick;
    }
}
