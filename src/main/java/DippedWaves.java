import java.util.Arrays;

/** A ripple tank. The document ../shared/DOC.md says what each call promises. */
public final class DippedWaves {
    public static final int NO_SUCH = -1, BAD_VALUE = -2, BAD_TEXT = -3, TOO_MANY = -4, NOT_POSSIBLE = -5, NONE = -6;
    public static final int RUB = 0, DEEP = 1, SHALLOW = 2, STILL = 3;

    private static final int COLUMNS = 10, ROWS = 6, CELLS = COLUMNS * ROWS;
    private static final int DEEP_FLOOR = 0, WALL = 2, BEACH = 3;
    private static final String FLOOR_SIGNS = ".-#~";
    private static final int SETTINGS = 4;
    private static final int[] FIRST_SETTINGS = {10, 8, 3, 5};
    private static final int[] LEAST_SETTINGS = {0, 1, 1, 0};
    private static final int[] MOST_SETTINGS = {500, 8, 8, 500};
    private static final int MOST_HEIGHT = 9999;
    private static final int HEIGHT_OFFSET = 10000, SLOPE_OFFSET = 100000, SUM_OFFSET = 1000000;
    private static final int MOST_DIPPERS = 5, LEAST_PERIOD = 2, MOST_PERIOD = 40, MOST_SIZE = 900;
    private static final int MOST_DROP = 999;
    private static final int MOST_PROBES = 3, MOST_SEEN = 24;
    private static final int LEAST_LAG = 2, MOST_LAG = 12, COMPARED = 12;
    private static final int MOST_PASSED = 100, LAST_TICK = 100000;
    private static final int MOST_FORESEEN = 60, MOST_AWAITED = 80, MOST_HUSHED = 30;
    private static final int MOST_PAD = 72, MOST_PUT = 8, FIRST_CODE = 33, LAST_CODE = 126;
    private static final int ROW_TEXT = COLUMNS + 1, FLOOR_TEXT = ROWS * ROW_TEXT - 1;
    private static final int MOST_UNDONE = 6, SLOTS = 2;

    private final Tank tank = new Tank();
    // All that is foreseen happens here, so that a question changes nothing and needs no new rows.
    private final Tank trial = new Tank();
    private final History history = new History();
    private final Tank[] slots = new Tank[SLOTS];
    private final boolean[] saved = new boolean[SLOTS];
    private final Pad pad = new Pad();

    public DippedWaves() {
        for (int slot = 0; slot < SLOTS; slot++) {
            slots[slot] = new Tank();
        }
    }

    // ---- changes

    public int set(int setting, int value) {
        if (setting < 0 || setting >= SETTINGS) {
            return BAD_VALUE;
        }
        if (value < LEAST_SETTINGS[setting] || value > MOST_SETTINGS[setting]) {
            return BAD_VALUE;
        }
        history.keep(tank);
        int previous = tank.settings[setting];
        tank.settings[setting] = value;
        return previous;
    }

    public int floor(int x, int y, int floor) {
        if (!isCell(x, y)) {
            return NO_SUCH;
        }
        if (floor < DEEP_FLOOR || floor > BEACH) {
            return BAD_VALUE;
        }
        int at = placeOf(x, y);
        if (floor == WALL && tank.dippers.lastIn(at) != NONE) {
            return NOT_POSSIBLE;
        }
        history.keep(tank);
        int previous = tank.floors[at];
        tank.lay(at, floor);
        return previous;
    }

    public int read() {
        if (pad.firstFault() != NONE) {
            return BAD_TEXT;
        }
        history.keep(tank);
        tank.layAll(pad);
        pad.length = 0;
        return tank.openCells();
    }

    public int clear() {
        history.keep(tank);
        int loudness = tank.loudness();
        tank.calm();
        return loudness;
    }

    public int dip(int x, int y, int period, int size, int shift) {
        if (!isCell(x, y)) {
            return NO_SUCH;
        }
        if (!isIn(period, LEAST_PERIOD, MOST_PERIOD) || !isIn(size, 1, MOST_SIZE) || !isIn(shift, 0, period - 1)) {
            return BAD_VALUE;
        }
        int at = placeOf(x, y);
        if (tank.floors[at] == WALL) {
            return NOT_POSSIBLE;
        }
        if (tank.dippers.many >= MOST_DIPPERS) {
            return TOO_MANY;
        }
        history.keep(tank);
        return tank.dippers.append(at, period, size, shift);
    }

    public int takeOut(int dipper) {
        if (!isDipper(dipper)) {
            return NO_SUCH;
        }
        history.keep(tank);
        tank.dippers.remove(dipper);
        return tank.dippers.many;
    }

    public int drop(int x, int y, int by) {
        if (!isCell(x, y)) {
            return NO_SUCH;
        }
        if (!isIn(by, -MOST_DROP, MOST_DROP)) {
            return BAD_VALUE;
        }
        int at = placeOf(x, y);
        if (tank.floors[at] == WALL) {
            return NOT_POSSIBLE;
        }
        history.keep(tank);
        tank.heights[at] = bounded(tank.heights[at] + by);
        return tank.heights[at] + HEIGHT_OFFSET;
    }

    public int probe(int x, int y) {
        if (!isCell(x, y)) {
            return NO_SUCH;
        }
        if (tank.probes.many >= MOST_PROBES) {
            return TOO_MANY;
        }
        history.keep(tank);
        return tank.probes.append(placeOf(x, y));
    }

    public int pass(int ticks) {
        if (!isIn(ticks, 1, MOST_PASSED)) {
            return BAD_VALUE;
        }
        if (tank.tick + ticks > LAST_TICK) {
            return TOO_MANY;
        }
        history.keep(tank);
        tank.run(ticks);
        return tank.restlessCells();
    }

    // ---- what there is; nothing changes

    public int cell(int x, int y, int what) {
        if (!isCell(x, y)) {
            return NO_SUCH;
        }
        int at = placeOf(x, y);
        switch (what) {
            case 0:
                return tank.floors[at];
            case 1:
                return tank.heights[at] + HEIGHT_OFFSET;
            case 2:
                return tank.ahead[at] + HEIGHT_OFFSET;
            case 3:
                return tank.slopeAt(at) + SLOPE_OFFSET;
            case 4:
                return tank.isStill(at) ? 1 : 0;
            case 5:
                return tank.firsts[at];
            case 6:
                return tank.dippers.lastIn(at);
            default:
                return BAD_VALUE;
        }
    }

    public int dipper(int dipper, int what) {
        if (!isDipper(dipper)) {
            return NO_SUCH;
        }
        Dippers dippers = tank.dippers;
        switch (what) {
            case 0:
                return dippers.cells[dipper] % COLUMNS;
            case 1:
                return dippers.cells[dipper] / COLUMNS;
            case 2:
                return dippers.periods[dipper];
            case 3:
                return dippers.sizes[dipper];
            case 4:
                return dippers.shifts[dipper];
            case 5:
                return dippers.isUp(dipper, tank.tick) ? 1 : 0;
            default:
                return BAD_VALUE;
        }
    }

    public int ofProbe(int probe, int what) {
        if (!isProbe(probe)) {
            return NO_SUCH;
        }
        Probes probes = tank.probes;
        switch (what) {
            case 0:
                return probes.cells[probe] % COLUMNS;
            case 1:
                return probes.cells[probe] / COLUMNS;
            case 2:
                return probes.lengths[probe];
            case 3:
                return probes.beatOf(probe);
            case 4:
                return probes.lengths[probe] == 0 ? NONE : probes.greatestOf(probe) + HEIGHT_OFFSET;
            default:
                return BAD_VALUE;
        }
    }

    public int seen(int probe, int ago) {
        if (!isProbe(probe) || !isIn(ago, 0, tank.probes.lengths[probe] - 1)) {
            return NO_SUCH;
        }
        return tank.probes.heights[probe][ago] + HEIGHT_OFFSET;
    }

    public int count(int what) {
        switch (what) {
            case 0:
                return tank.tick;
            case 1:
                return tank.openCells();
            case 2:
                return tank.openCells() - tank.restlessCells();
            case 3:
                return tank.sum() + SUM_OFFSET;
            case 4:
                return tank.loudness();
            case 5:
                return tank.loudnessOf(tank.loudestCell());
            case 6:
                return tank.reachedCells();
            case 7:
                return tank.dippers.many;
            case 8:
                return tank.probes.many;
            case 9:
            case 10:
            case 11:
            case 12:
                return tank.settings[what - 9];
            case 13:
                return pad.length;
            case 14:
                return history.many;
            default:
                return BAD_VALUE;
        }
    }

    public int loudest(int which) {
        if (!isIn(which, 0, 1)) {
            return BAD_VALUE;
        }
        int at = tank.loudestCell();
        if (tank.loudnessOf(at) == 0) {
            return NONE;
        }
        return which == 0 ? at % COLUMNS : at / COLUMNS;
    }

    public int crests(int y) {
        if (!isIn(y, 0, ROWS - 1)) {
            return NO_SUCH;
        }
        int many = 0;
        for (int x = 0; x < COLUMNS; x++) {
            if (tank.isCrest(x, y)) {
                many++;
            }
        }
        return many;
    }

    // ---- what if; nothing changes

    public int ifPassed(int x, int y, int ticks) {
        if (!isCell(x, y)) {
            return NO_SUCH;
        }
        if (!isIn(ticks, 1, MOST_FORESEEN)) {
            return BAD_VALUE;
        }
        trial.become(tank);
        trial.run(ticks);
        return trial.heights[placeOf(x, y)] + HEIGHT_OFFSET;
    }

    public int comes(int x, int y) {
        if (!isCell(x, y)) {
            return NO_SUCH;
        }
        int at = placeOf(x, y);
        if (!tank.isStill(at)) {
            return NOT_POSSIBLE;
        }
        trial.become(tank);
        for (int ticks = 1; ticks <= MOST_AWAITED; ticks++) {
            trial.step();
            if (!trial.isStill(at)) {
                return ticks;
            }
        }
        return NONE;
    }

    public int hush(int dipper, int x, int y, int ticks, int what) {
        if (!isDipper(dipper) || !isCell(x, y)) {
            return NO_SUCH;
        }
        if (!isIn(ticks, 1, MOST_HUSHED) || !isIn(what, 0, 1)) {
            return BAD_VALUE;
        }
        int at = placeOf(x, y);
        int best = 0;
        int least = loudnessWith(dipper, 0, at, ticks);
        for (int shift = 1; shift < tank.dippers.periods[dipper]; shift++) {
            int loudness = loudnessWith(dipper, shift, at, ticks);
            if (loudness < least) {
                best = shift;
                least = loudness;
            }
        }
        return what == 0 ? best : least;
    }

    // ---- texts

    public int put(long characters) {
        int many = Pad.charactersIn(characters);
        if (many == 0) {
            return BAD_VALUE;
        }
        if (pad.length + many > MOST_PAD) {
            return TOO_MANY;
        }
        pad.append(characters, many);
        return pad.length;
    }

    public int wipe() {
        int length = pad.length;
        pad.length = 0;
        return length;
    }

    public int fault() {
        return pad.firstFault();
    }

    // ---- undo, saving

    public int undo() {
        if (history.many == 0) {
            return NOT_POSSIBLE;
        }
        history.giveBack(tank);
        return history.many;
    }

    public int save(int slot) {
        if (!isIn(slot, 0, SLOTS - 1)) {
            return BAD_VALUE;
        }
        slots[slot].become(tank);
        saved[slot] = true;
        return tank.tick;
    }

    public int restore(int slot) {
        if (!isIn(slot, 0, SLOTS - 1)) {
            return BAD_VALUE;
        }
        if (!saved[slot]) {
            return NOT_POSSIBLE;
        }
        history.keep(tank);
        tank.become(slots[slot]);
        return tank.tick;
    }

    // ---- helpers

    private int loudnessWith(int dipper, int shift, int at, int ticks) {
        trial.become(tank);
        trial.dippers.shifts[dipper] = shift;
        trial.run(ticks);
        return trial.loudnessOf(at);
    }

    private boolean isDipper(int dipper) {
        return isIn(dipper, 0, tank.dippers.many - 1);
    }

    private boolean isProbe(int probe) {
        return isIn(probe, 0, tank.probes.many - 1);
    }

    private static boolean isIn(int value, int least, int most) {
        return value >= least && value <= most;
    }

    private static boolean isCell(int x, int y) {
        return isIn(x, 0, COLUMNS - 1) && isIn(y, 0, ROWS - 1);
    }

    private static int placeOf(int x, int y) {
        return y * COLUMNS + x;
    }

    private static int bounded(int height) {
        return Math.max(-MOST_HEIGHT, Math.min(MOST_HEIGHT, height));
    }

    /** All that undo and restore bring back: the settings, the cells, the dippers, the probes and the tick. */
    private static final class Tank {
        final int[] settings = FIRST_SETTINGS.clone();
        final int[] floors = new int[CELLS];
        int[] heights = new int[CELLS];
        int[] ahead = new int[CELLS];
        final int[] firsts = new int[CELLS];
        final Dippers dippers = new Dippers();
        final Probes probes = new Probes();
        int tick = 0;

        Tank() {
            Arrays.fill(firsts, NONE);
        }

        void become(Tank other) {
            System.arraycopy(other.settings, 0, settings, 0, SETTINGS);
            System.arraycopy(other.floors, 0, floors, 0, CELLS);
            System.arraycopy(other.heights, 0, heights, 0, CELLS);
            System.arraycopy(other.ahead, 0, ahead, 0, CELLS);
            System.arraycopy(other.firsts, 0, firsts, 0, CELLS);
            dippers.become(other.dippers);
            probes.become(other.probes);
            tick = other.tick;
        }

        void lay(int at, int floor) {
            floors[at] = floor;
            if (floor == WALL) {
                heights[at] = 0;
                ahead[at] = 0;
            }
        }

        void layAll(Pad pad) {
            for (int at = 0; at < CELLS; at++) {
                floors[at] = pad.floorOf(at);
            }
            dippers.many = 0;
            probes.many = 0;
            calm();
        }

        void calm() {
            Arrays.fill(heights, 0);
            Arrays.fill(ahead, 0);
            Arrays.fill(firsts, NONE);
            probes.forget();
            tick = 0;
        }

        void run(int ticks) {
            for (int i = 0; i < ticks; i++) {
                step();
            }
        }

        void step() {
            // A height ahead of the last tick is asked by its own cell alone: the new one can take its place.
            int[] next = ahead;
            for (int at = 0; at < CELLS; at++) {
                next[at] = floors[at] == WALL ? 0 : nextHeight(at);
            }
            dippers.beat(next, tick);
            ahead = heights;
            heights = next;
            keepFirsts();
            probes.look(heights);
            tick++;
        }

        private int nextHeight(int at) {
            int floor = floors[at];
            int speed = floor == DEEP_FLOOR ? settings[DEEP] : settings[SHALLOW];
            int height = 2 * heights[at] - ahead[at] + slopeAt(at) * speed / 16;
            height -= height * settings[RUB] / 1000;
            if (floor == BEACH) {
                height /= 2;
            }
            return bounded(height);
        }

        private void keepFirsts() {
            for (int at = 0; at < CELLS; at++) {
                if (firsts[at] == NONE && loudnessOf(at) > settings[STILL]) {
                    firsts[at] = tick;
                }
            }
        }

        int slopeAt(int at) {
            if (floors[at] == WALL) {
                return 0;
            }
            int x = at % COLUMNS;
            int y = at / COLUMNS;
            int slope = x > 0 ? rise(at, at - 1) : 0;
            slope += x < COLUMNS - 1 ? rise(at, at + 1) : 0;
            slope += y > 0 ? rise(at, at - COLUMNS) : 0;
            slope += y < ROWS - 1 ? rise(at, at + COLUMNS) : 0;
            return slope;
        }

        private int rise(int from, int to) {
            return floors[to] == WALL ? 0 : heights[to] - heights[from];
        }

        private int heightAt(int x, int y) {
            return isCell(x, y) ? heights[placeOf(x, y)] : 0;
        }

        int loudnessOf(int at) {
            return Math.abs(heights[at]);
        }

        boolean isStill(int at) {
            return loudnessOf(at) <= settings[STILL] && Math.abs(ahead[at]) <= settings[STILL];
        }

        // A wall's height is kept as 0, so it is no crest, and counts as 0 beside one.
        boolean isCrest(int x, int y) {
            int own = heightAt(x, y);
            return own > 0 && own > heightAt(x - 1, y) && own > heightAt(x + 1, y);
        }

        int openCells() {
            int many = 0;
            for (int at = 0; at < CELLS; at++) {
                if (floors[at] != WALL) {
                    many++;
                }
            }
            return many;
        }

        int restlessCells() {
            int many = 0;
            for (int at = 0; at < CELLS; at++) {
                if (floors[at] != WALL && !isStill(at)) {
                    many++;
                }
            }
            return many;
        }

        int reachedCells() {
            int many = 0;
            for (int at = 0; at < CELLS; at++) {
                if (firsts[at] != NONE) {
                    many++;
                }
            }
            return many;
        }

        int sum() {
            int sum = 0;
            for (int at = 0; at < CELLS; at++) {
                sum += heights[at];
            }
            return sum;
        }

        int loudness() {
            int sum = 0;
            for (int at = 0; at < CELLS; at++) {
                sum += loudnessOf(at);
            }
            return sum;
        }

        int loudestCell() {
            int best = 0;
            for (int at = 1; at < CELLS; at++) {
                if (loudnessOf(at) > loudnessOf(best)) {
                    best = at;
                }
            }
            return best;
        }
    }

    /** The dippers of a tank, in the order in which they were put. */
    private static final class Dippers {
        final int[] cells = new int[MOST_DIPPERS];
        final int[] periods = new int[MOST_DIPPERS];
        final int[] sizes = new int[MOST_DIPPERS];
        final int[] shifts = new int[MOST_DIPPERS];
        int many = 0;

        void become(Dippers other) {
            System.arraycopy(other.cells, 0, cells, 0, MOST_DIPPERS);
            System.arraycopy(other.periods, 0, periods, 0, MOST_DIPPERS);
            System.arraycopy(other.sizes, 0, sizes, 0, MOST_DIPPERS);
            System.arraycopy(other.shifts, 0, shifts, 0, MOST_DIPPERS);
            many = other.many;
        }

        int append(int at, int period, int size, int shift) {
            cells[many] = at;
            periods[many] = period;
            sizes[many] = size;
            shifts[many] = shift;
            many++;
            return many - 1;
        }

        void remove(int dipper) {
            for (int i = dipper + 1; i < many; i++) {
                cells[i - 1] = cells[i];
                periods[i - 1] = periods[i];
                sizes[i - 1] = sizes[i];
                shifts[i - 1] = shifts[i];
            }
            many--;
        }

        boolean isUp(int dipper, int tick) {
            int period = periods[dipper];
            return period > 0 && (tick + shifts[dipper]) % period >= period / 2;
        }

        // In their order, so that of several in a cell the last one holds.
        void beat(int[] heights, int tick) {
            for (int i = 0; i < many; i++) {
                heights[cells[i]] = isUp(i, tick) ? sizes[i] : -sizes[i];
            }
        }

        int lastIn(int at) {
            for (int i = many - 1; i >= 0; i--) {
                if (cells[i] == at) {
                    return i;
                }
            }
            return NONE;
        }
    }

    /** The probes of a tank, in the order in which they were put, each with its heights, the latest first. */
    private static final class Probes {
        final int[] cells = new int[MOST_PROBES];
        final int[] lengths = new int[MOST_PROBES];
        final int[][] heights = new int[MOST_PROBES][MOST_SEEN];
        int many = 0;

        void become(Probes other) {
            System.arraycopy(other.cells, 0, cells, 0, MOST_PROBES);
            System.arraycopy(other.lengths, 0, lengths, 0, MOST_PROBES);
            for (int i = 0; i < MOST_PROBES; i++) {
                System.arraycopy(other.heights[i], 0, heights[i], 0, MOST_SEEN);
            }
            many = other.many;
        }

        int append(int at) {
            cells[many] = at;
            lengths[many] = 0;
            many++;
            return many - 1;
        }

        void forget() {
            Arrays.fill(lengths, 0);
        }

        void look(int[] water) {
            for (int i = 0; i < many; i++) {
                System.arraycopy(heights[i], 0, heights[i], 1, MOST_SEEN - 1);
                heights[i][0] = water[cells[i]];
                lengths[i] = Math.min(lengths[i] + 1, MOST_SEEN);
            }
        }

        int greatestOf(int probe) {
            int greatest = heights[probe][0];
            for (int ago = 1; ago < lengths[probe]; ago++) {
                greatest = Math.max(greatest, heights[probe][ago]);
            }
            return greatest;
        }

        int beatOf(int probe) {
            if (lengths[probe] < MOST_SEEN) {
                return NONE;
            }
            int best = LEAST_LAG;
            int least = differences(probe, LEAST_LAG);
            for (int lag = LEAST_LAG + 1; lag <= MOST_LAG; lag++) {
                int sum = differences(probe, lag);
                if (sum < least) {
                    best = lag;
                    least = sum;
                }
            }
            return best;
        }

        private int differences(int probe, int lag) {
            int sum = 0;
            for (int k = 0; k < COMPARED; k++) {
                sum += Math.abs(heights[probe][k] - heights[probe][k + lag]);
            }
            return sum;
        }
    }

    /** The text from which a floor is read. */
    private static final class Pad {
        final char[] signs = new char[MOST_PAD];
        int length = 0;

        /** How many characters the number gives, or 0 if it is not what it should be. */
        static int charactersIn(long characters) {
            long rest = characters;
            int many = 0;
            while (many < MOST_PUT && (rest & 255) != 0) {
                if (!isIn((int) (rest & 255), FIRST_CODE, LAST_CODE)) {
                    return 0;
                }
                rest >>>= 8;
                many++;
            }
            return rest == 0 ? many : 0;
        }

        void append(long characters, int many) {
            for (int i = 0; i < many; i++) {
                signs[length + i] = (char) ((characters >>> (8 * (many - 1 - i))) & 255);
            }
            length += many;
        }

        int firstFault() {
            for (int i = 0; i < length; i++) {
                if (!canStand(signs[i], i)) {
                    return i;
                }
            }
            return length < FLOOR_TEXT ? length : NONE;
        }

        private static boolean canStand(char sign, int at) {
            if (at >= FLOOR_TEXT) {
                return false;
            }
            return at % ROW_TEXT == COLUMNS ? sign == '/' : FLOOR_SIGNS.indexOf(sign) >= 0;
        }

        int floorOf(int at) {
            return FLOOR_SIGNS.indexOf(signs[at / COLUMNS * ROW_TEXT + at % COLUMNS]);
        }
    }

    /** The states that undo brings back, the latest last. */
    private static final class History {
        private final Tank[] states = new Tank[MOST_UNDONE];
        int many = 0;

        History() {
            for (int i = 0; i < MOST_UNDONE; i++) {
                states[i] = new Tank();
            }
        }

        void keep(Tank tank) {
            if (many >= MOST_UNDONE) {
                loseOldest();
            }
            states[many].become(tank);
            many++;
        }

        private void loseOldest() {
            Tank oldest = states[0];
            for (int i = 1; i < MOST_UNDONE; i++) {
                states[i - 1] = states[i];
            }
            // Its rows are used again, for the next state.
            states[MOST_UNDONE - 1] = oldest;
            many = MOST_UNDONE - 1;
        }

        void giveBack(Tank tank) {
            many--;
            tank.become(states[many]);
        }
    }
}
