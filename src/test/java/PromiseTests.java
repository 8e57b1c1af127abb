/** Each promise of the document: ordinary inputs, the edges that it names, and wrong inputs. */
public final class PromiseTests {
    private static final int NO_SUCH = -1, BAD_VALUE = -2, BAD_TEXT = -3, TOO_MANY = -4, NOT_POSSIBLE = -5, NONE = -6;
    private static final int[] FAR = {Integer.MIN_VALUE, Integer.MAX_VALUE};
    private static final String DEEP_ROW = "..........";
    private static final String WALL_ROW = "##########";
    private static final String MIXED = ".-#~....../" + DEEP_ROW + "/" + WALL_ROW + "/" + DEEP_ROW + "/" + DEEP_ROW + "/~~~~~~~~--";

    public static void main(String[] args) {
        newObject();
        set();
        settingsAtWork();
        floor();
        read();
        clear();
        dip();
        dippersAtWork();
        takeOut();
        drop();
        probe();
        pass();
        tickRounds();
        firstTicks();
        cell();
        dipper();
        ofProbe();
        beat();
        seen();
        count();
        loudest();
        crests();
        ifPassed();
        comes();
        hush();
        put();
        wipe();
        fault();
        undo();
        undoOfEachChange();
        save();
        restore();
        constants();
        Due.end("PromiseTests");
    }

    // ---- 1

    private static void newObject() {
        Due.part("promise 1");
        DippedWaves w = new DippedWaves();
        long[] counts = {0, 60, 60, 1000000, 0, 0, 0, 0, 0, 10, 8, 3, 5, 0, 0};
        for (int what = 0; what < counts.length; what++) {
            Due.due("count(" + what + ")", counts[what], w.count(what));
        }
        for (int y = 0; y < 6; y++) {
            for (int x = 0; x < 10; x++) {
                long[] cell = {0, 10000, 10000, 100000, 1, NONE, NONE};
                for (int what = 0; what < cell.length; what++) {
                    Due.due("cell(" + x + ", " + y + ", " + what + ")", cell[what], w.cell(x, y, what));
                }
            }
        }
        Due.due("undo()", NOT_POSSIBLE, w.undo());
        Due.due("restore(0)", NOT_POSSIBLE, w.restore(0));
        Due.due("restore(1)", NOT_POSSIBLE, w.restore(1));
    }

    // ---- 2

    private static void set() {
        Due.part("promise 2");
        DippedWaves w = new DippedWaves();
        int[] first = {10, 8, 3, 5};
        int[] least = {0, 1, 1, 0};
        int[] most = {500, 8, 8, 500};
        for (int setting = 0; setting < 4; setting++) {
            Due.due("set to the least", first[setting], w.set(setting, least[setting]));
            Due.due("set to the most", least[setting], w.set(setting, most[setting]));
            int undone = w.count(14);
            Due.due("set below", BAD_VALUE, w.set(setting, least[setting] - 1));
            Due.due("set above", BAD_VALUE, w.set(setting, most[setting] + 1));
            Due.due("set far below", BAD_VALUE, w.set(setting, Integer.MIN_VALUE));
            Due.due("set far above", BAD_VALUE, w.set(setting, Integer.MAX_VALUE));
            Due.due("kept", most[setting], w.count(9 + setting));
            Due.due("no change", undone, w.count(14));
        }
        Due.due("set(-1, 5)", BAD_VALUE, w.set(-1, 5));
        Due.due("set(4, 5)", BAD_VALUE, w.set(4, 5));
        for (int far : FAR) {
            Due.due("set(far, 5)", BAD_VALUE, w.set(far, 5));
        }
        Due.due("set the same", 500, w.set(DippedWaves.STILL, 500));
    }

    private static void settingsAtWork() {
        Due.part("promise 2, at work");
        DippedWaves w = calmed(0);
        w.set(DippedWaves.DEEP, 1);
        w.drop(5, 3, 160);
        w.pass(1);
        Due.due("own height, DEEP 1", 10280, w.cell(5, 3, 1));
        Due.due("beside it, DEEP 1", 10010, w.cell(6, 3, 1));
        w = calmed(500);
        w.drop(5, 3, 160);
        w.pass(1);
        Due.due("own height, RUB 500", 10000, w.cell(5, 3, 1));
        Due.due("beside it, RUB 500", 10040, w.cell(4, 3, 1));
        w = calmed(0);
        w.floor(5, 3, 1);
        w.floor(5, 2, 3);
        w.drop(5, 3, 160);
        Due.due("a shallow's height, SHALLOW 3", 10200, w.ifPassed(5, 3, 1));
        Due.due("a beach beside it, SHALLOW 3", 10015, w.ifPassed(5, 2, 1));
        Due.due("deep water beside it, SHALLOW 3", 10080, w.ifPassed(5, 4, 1));
        w.set(DippedWaves.SHALLOW, 8);
        Due.due("a shallow's height, SHALLOW 8", 10000, w.ifPassed(5, 3, 1));
        Due.due("a beach beside it, SHALLOW 8", 10040, w.ifPassed(5, 2, 1));
        w.set(DippedWaves.STILL, 160);
        Due.due("still at STILL", 1, w.cell(5, 3, 4));
        w.set(DippedWaves.STILL, 159);
        Due.due("not still above STILL", 0, w.cell(5, 3, 4));
    }

    // ---- 3

    private static void floor() {
        Due.part("promise 3");
        DippedWaves w = new DippedWaves();
        Due.due("to shallow", 0, w.floor(0, 0, 1));
        Due.due("to wall", 1, w.floor(0, 0, 2));
        Due.due("to beach", 2, w.floor(0, 0, 3));
        Due.due("to deep", 3, w.floor(0, 0, 0));
        Due.due("the last cell", 0, w.floor(9, 5, 3));
        Due.due("its floor", 3, w.cell(9, 5, 0));
        int undone = w.count(14);
        for (int x : new int[] {-1, 10, Integer.MIN_VALUE, Integer.MAX_VALUE}) {
            Due.due("no column, and no floor", NO_SUCH, w.floor(x, 0, 9));
        }
        for (int y : new int[] {-1, 6, Integer.MIN_VALUE, Integer.MAX_VALUE}) {
            Due.due("no row, and no floor", NO_SUCH, w.floor(0, y, 9));
        }
        w.dip(4, 4, 2, 1, 0);
        for (int floor : new int[] {-1, 4, Integer.MIN_VALUE, Integer.MAX_VALUE}) {
            Due.due("floor " + floor, BAD_VALUE, w.floor(4, 4, floor));
        }
        Due.due("a wall at a dipper", NOT_POSSIBLE, w.floor(4, 4, 2));
        Due.due("still deep", 0, w.cell(4, 4, 0));
        Due.due("only dip was a change", undone + 1, w.count(14));
        Due.due("a beach at a dipper", 0, w.floor(4, 4, 3));
        Due.due("the same again", 3, w.floor(4, 4, 3));
        w.takeOut(0);
        Due.due("a wall, the dipper gone", 3, w.floor(4, 4, 2));
        wallLosesHeights();
    }

    private static void wallLosesHeights() {
        DippedWaves w = calmed(0);
        w.set(DippedWaves.DEEP, 1);
        w.drop(5, 3, 400);
        w.pass(2);
        Due.holds("a height now", w.cell(5, 3, 1) != 10000);
        Due.holds("a height ahead", w.cell(5, 3, 2) != 10000);
        int first = w.cell(5, 3, 5);
        int reached = w.count(6);
        w.floor(5, 3, 2);
        Due.due("a wall's height", 10000, w.cell(5, 3, 1));
        Due.due("a wall's height ahead", 10000, w.cell(5, 3, 2));
        Due.due("its first tick stays", first, w.cell(5, 3, 5));
        Due.due("and is counted", reached, w.count(6));
        w.floor(5, 3, 1);
        Due.due("height of one that was a wall", 10000, w.cell(5, 3, 1));
        Due.due("height ahead of one that was a wall", 10000, w.cell(5, 3, 2));
        Due.due("its first tick stays again", first, w.cell(5, 3, 5));
        w = calmed(0);
        w.drop(5, 3, 400);
        w.floor(5, 3, 1);
        w.floor(5, 3, 3);
        w.floor(5, 3, 0);
        Due.due("no wall, no loss", 10400, w.cell(5, 3, 1));
    }

    // ---- 4

    private static void read() {
        Due.part("promise 4");
        DippedWaves w = new DippedWaves();
        Due.due("read the empty pad", BAD_TEXT, w.read());
        type(w, MIXED.substring(0, 64));
        Due.due("read a short pad", BAD_TEXT, w.read());
        Due.due("it is kept", 64, w.count(13));
        Due.due("no change", 0, w.count(14));
        type(w, "-");
        w.set(DippedWaves.DEEP, 6);
        w.dip(0, 0, 4, 500, 0);
        w.dip(0, 1, 4, 500, 0);
        w.probe(9, 5);
        w.pass(7);
        Due.due("read()", 49, w.read());
        Due.due("the pad is empty", 0, w.count(13));
        long[] counts = {0, 49, 49, 1000000, 0, 0, 0, 0, 0, 10, 6, 3, 5, 0, 6};
        for (int what = 0; what < counts.length; what++) {
            Due.due("count(" + what + ")", counts[what], w.count(what));
        }
        String signs = ".-#~";
        for (int y = 0; y < 6; y++) {
            for (int x = 0; x < 10; x++) {
                Due.due("floor of " + x + ", " + y, signs.indexOf(MIXED.charAt(11 * y + x)), w.cell(x, y, 0));
                Due.due("height ahead of " + x + ", " + y, 10000, w.cell(x, y, 2));
            }
        }
        type(w, MIXED + ".");
        Due.due("read a long pad", BAD_TEXT, w.read());
        w.wipe();
        String walls = WALL_ROW + "/" + WALL_ROW + "/" + WALL_ROW;
        type(w, walls + "/" + walls);
        Due.due("read walls alone", 0, w.read());
        Due.due("pass over walls alone", 0, w.pass(3));
        Due.due("loudest of walls alone", NONE, w.loudest(0));
    }

    // ---- 5

    private static void clear() {
        Due.part("promise 5");
        DippedWaves w = new DippedWaves();
        Due.due("clear()", 0, w.clear());
        Due.due("is a change", 1, w.count(14));
        w.floor(3, 3, 2);
        w.set(DippedWaves.RUB, 20);
        w.dip(4, 4, 5, 300, 1);
        w.probe(1, 1);
        w.pass(9);
        int loudness = w.count(4);
        Due.holds("water moves", loudness > 0);
        Due.due("clear()", loudness, w.clear());
        long[] counts = {0, 59, 59, 1000000, 0, 0, 0, 1, 1, 20, 8, 3, 5, 0, 6};
        for (int what = 0; what < counts.length; what++) {
            Due.due("count(" + what + ")", counts[what], w.count(what));
        }
        Due.due("the wall stays", 2, w.cell(3, 3, 0));
        Due.due("no height ahead", 10000, w.cell(4, 4, 2));
        Due.due("the probe keeps nothing", 0, w.ofProbe(0, 2));
        Due.due("nothing seen", NO_SUCH, w.seen(0, 0));
        w.drop(0, 0, 30);
        w.drop(9, 5, -50);
        Due.due("without their signs", 80, w.clear());
        w.pass(1);
        Due.due("the first tick is 0 again", 0, w.cell(4, 4, 5));
        Due.due("the probe keeps one", 1, w.ofProbe(0, 2));
    }

    // ---- 6

    private static void dip() {
        Due.part("promise 6");
        DippedWaves w = new DippedWaves();
        w.floor(3, 0, 2);
        int undone = w.count(14);
        int[][] noCells = {{-1, 0}, {10, 0}, {0, -1}, {0, 6}, {Integer.MIN_VALUE, 0}, {0, Integer.MAX_VALUE}};
        for (int[] c : noCells) {
            Due.due("dip in no cell", NO_SUCH, w.dip(c[0], c[1], 1, 0, -1));
        }
        int[][] bad = {
            {1, 1, 0}, {41, 1, 0}, {0, 1, 0}, {-2, 1, 0}, {2, 0, 0}, {2, 901, 0}, {2, -1, 0}, {2, 1, -1}, {2, 1, 2},
            {40, 1, 40}, {Integer.MIN_VALUE, 1, 0}, {Integer.MAX_VALUE, 1, 0}, {2, Integer.MIN_VALUE, 0},
            {2, Integer.MAX_VALUE, 0}, {2, 1, Integer.MIN_VALUE}, {2, 1, Integer.MAX_VALUE}};
        for (int[] b : bad) {
            Due.due("dip with a bad value, in a wall", BAD_VALUE, w.dip(3, 0, b[0], b[1], b[2]));
        }
        Due.due("dip in a wall", NOT_POSSIBLE, w.dip(3, 0, 2, 1, 0));
        Due.due("no change", undone, w.count(14));
        Due.due("the least values", 0, w.dip(0, 0, 2, 1, 0));
        Due.due("the most values", 1, w.dip(9, 5, 40, 900, 39));
        Due.due("in a shallow", 0, w.floor(1, 1, 1));
        Due.due("dip in it", 2, w.dip(1, 1, 2, 1, 1));
        Due.due("a beach", 0, w.floor(2, 2, 3));
        Due.due("dip in it", 3, w.dip(2, 2, 3, 1, 2));
        Due.due("the fifth, in a cell with one", 4, w.dip(9, 5, 7, 1, 0));
        Due.due("a sixth", TOO_MANY, w.dip(5, 5, 7, 1, 0));
        Due.due("a sixth in a wall", NOT_POSSIBLE, w.dip(3, 0, 7, 1, 0));
        Due.due("a sixth with a bad value", BAD_VALUE, w.dip(5, 5, 7, 1, 7));
        Due.due("five", 5, w.count(7));
        int[] last = {9, 5, 40, 900, 39};
        for (int what = 0; what < 5; what++) {
            Due.due("dipper(1, " + what + ")", last[what], w.dipper(1, what));
        }
    }

    private static void dippersAtWork() {
        Due.part("promise 6, at work");
        for (int period = 2; period <= 40; period++) {
            DippedWaves w = new DippedWaves();
            int shift = period / 3;
            w.dip(5, 3, period, 900, shift);
            for (int tick = 0; tick < 2 * period; tick++) {
                boolean up = (tick + shift) % period >= period / 2;
                Due.due("up in the tick " + tick, up ? 1 : 0, w.dipper(0, 5));
                w.pass(1);
                Due.due("height behind the tick " + tick, up ? 10900 : 9100, w.cell(5, 3, 1));
            }
        }
        DippedWaves w = new DippedWaves();
        w.floor(5, 3, 3);
        w.dip(5, 3, 2, 100, 1);
        w.dip(5, 3, 2, 300, 0);
        w.dip(5, 4, 2, 500, 0);
        w.pass(1);
        Due.due("of several the last one, on a beach", 9700, w.cell(5, 3, 1));
        w.takeOut(1);
        w.pass(1);
        Due.due("the other one behind", 9900, w.cell(5, 3, 1));
    }

    // ---- 7

    private static void takeOut() {
        Due.part("promise 7");
        DippedWaves w = new DippedWaves();
        Due.due("none to take", NO_SUCH, w.takeOut(0));
        for (int i = 0; i < 5; i++) {
            w.dip(i, i, 10 + i, 100 + i, i);
        }
        int undone = w.count(14);
        for (int dipper : new int[] {-1, 5, Integer.MIN_VALUE, Integer.MAX_VALUE}) {
            Due.due("takeOut(" + dipper + ")", NO_SUCH, w.takeOut(dipper));
        }
        Due.due("no change", undone, w.count(14));
        Due.due("takeOut(1)", 4, w.takeOut(1));
        int[] left = {0, 2, 3, 4};
        for (int i = 0; i < left.length; i++) {
            int[] about = {left[i], left[i], 10 + left[i], 100 + left[i], left[i]};
            for (int what = 0; what < about.length; what++) {
                Due.due("dipper(" + i + ", " + what + ")", about[what], w.dipper(i, what));
            }
        }
        Due.due("no fifth", NO_SUCH, w.dipper(4, 0));
        Due.due("its cell is free", NONE, w.cell(1, 1, 6));
        Due.due("one moved up", 1, w.cell(2, 2, 6));
        Due.due("the last", 3, w.takeOut(3));
        Due.due("the first", 2, w.takeOut(0));
        Due.due("the first", 1, w.takeOut(0));
        Due.due("the first", 0, w.takeOut(0));
        Due.due("no more", NO_SUCH, w.takeOut(0));
        w.pass(1);
        Due.due("none beats", 0, w.count(4));
        Due.due("room again", 0, w.dip(0, 0, 2, 1, 0));
    }

    // ---- 8

    private static void drop() {
        Due.part("promise 8");
        DippedWaves w = new DippedWaves();
        w.floor(3, 0, 2);
        int undone = w.count(14);
        int[][] noCells = {{-1, 0}, {10, 0}, {0, -1}, {0, 6}, {Integer.MAX_VALUE, 0}, {0, Integer.MIN_VALUE}};
        for (int[] c : noCells) {
            Due.due("drop in no cell", NO_SUCH, w.drop(c[0], c[1], 1000));
        }
        for (int by : new int[] {-1000, 1000, Integer.MIN_VALUE, Integer.MAX_VALUE}) {
            Due.due("drop " + by + " on a wall", BAD_VALUE, w.drop(3, 0, by));
        }
        Due.due("drop on a wall", NOT_POSSIBLE, w.drop(3, 0, 0));
        Due.due("no change", undone, w.count(14));
        Due.due("drop of 0", 10000, w.drop(0, 0, 0));
        Due.due("is a change", undone + 1, w.count(14));
        for (int i = 1; i <= 12; i++) {
            Due.due("drops up", Math.min(19999, 10000 + 999 * i), w.drop(0, 0, 999));
        }
        Due.due("the height", 19999, w.cell(0, 0, 1));
        Due.due("not ahead", 10000, w.cell(0, 0, 2));
        Due.due("no first tick", NONE, w.cell(0, 0, 5));
        Due.due("down from the most", 19998, w.drop(0, 0, -1));
        for (int i = 1; i <= 12; i++) {
            Due.due("drops down", Math.max(1, 10000 - 999 * i), w.drop(9, 5, -999));
        }
        Due.due("up from the least", 4, w.drop(9, 5, 3));
    }

    // ---- 9

    private static void probe() {
        Due.part("promise 9");
        DippedWaves w = new DippedWaves();
        w.floor(2, 2, 2);
        int[][] noCells = {{-1, 0}, {10, 0}, {0, -1}, {0, 6}, {Integer.MIN_VALUE, 0}, {0, Integer.MAX_VALUE}};
        for (int[] c : noCells) {
            Due.due("probe in no cell", NO_SUCH, w.probe(c[0], c[1]));
        }
        Due.due("no change", 1, w.count(14));
        Due.due("on a wall", 0, w.probe(2, 2));
        Due.due("in the last cell", 1, w.probe(9, 5));
        w.dip(9, 5, 2, 70, 0);
        w.pass(2);
        Due.due("in a cell with one", 2, w.probe(9, 5));
        Due.due("too many", TOO_MANY, w.probe(0, 0));
        Due.due("too many, in no cell", NO_SUCH, w.probe(0, 6));
        Due.due("three", 3, w.count(8));
        w.pass(1);
        Due.due("since it was put", 1, w.ofProbe(2, 2));
        Due.due("the other since before", 3, w.ofProbe(1, 2));
        Due.due("a wall seen", 10000, w.seen(0, 0));
    }

    // ---- 10

    private static void pass() {
        Due.part("promise 10");
        DippedWaves w = new DippedWaves();
        for (int ticks : new int[] {0, 101, -1, Integer.MIN_VALUE, Integer.MAX_VALUE}) {
            Due.due("pass(" + ticks + ")", BAD_VALUE, w.pass(ticks));
        }
        Due.due("no change", 0, w.count(14));
        Due.due("pass(1)", 0, w.pass(1));
        Due.due("pass(100)", 0, w.pass(100));
        Due.due("the present tick", 101, w.count(0));
        for (int i = 0; i < 400; i++) {
            w.pass(100);
        }
        Due.due("the present tick", 40101, w.count(0));
        w = calmed(0);
        w.drop(5, 3, 6);
        w.drop(0, 0, 5);
        w.floor(9, 5, 2);
        Due.due("those above STILL now", 59 - 1, w.count(2));
        w.floor(0, 0, 1);
        w.set(DippedWaves.STILL, 2);
        Due.due("above STILL now or ahead", 6, w.pass(1));
        Due.due("the still ones", 53, w.count(2));
        twoHeightsAtOnce();
    }

    private static void twoHeightsAtOnce() {
        DippedWaves one = new DippedWaves();
        DippedWaves other = new DippedWaves();
        for (DippedWaves w : new DippedWaves[] {one, other}) {
            w.floor(4, 2, 2);
            w.floor(6, 4, 1);
            w.floor(8, 4, 3);
            w.dip(1, 1, 7, 800, 3);
            w.drop(8, 3, -700);
        }
        one.pass(50);
        for (int i = 0; i < 50; i++) {
            other.pass(1);
        }
        for (int y = 0; y < 6; y++) {
            for (int x = 0; x < 10; x++) {
                Due.due("50 ticks, or 50 times one, at " + x + ", " + y, one.cell(x, y, 1), other.cell(x, y, 1));
            }
        }
    }

    private static void tickRounds() {
        Due.part("promise 10, a tick");
        DippedWaves w = calmed(0);
        w.drop(5, 3, 33);
        w.drop(2, 3, -33);
        w.pass(1);
        Due.due("33 * 8 / 16", 10016, w.cell(6, 3, 1));
        Due.due("-33 * 8 / 16 towards 0", 9984, w.cell(1, 3, 1));
        Due.due("66 - 132 * 8 / 16", 10000, w.cell(5, 3, 1));
        Due.due("the height that was", 10033, w.cell(5, 3, 2));
        w = calmed(499);
        w.drop(5, 3, 33);
        w.drop(2, 3, -33);
        w.pass(1);
        Due.due("16 - 16 * 499 / 1000", 10009, w.cell(6, 3, 1));
        Due.due("-16 + 16 * 499 / 1000", 9991, w.cell(1, 3, 1));
        w = calmed(0);
        w.floor(6, 3, 3);
        w.floor(1, 3, 3);
        w.set(DippedWaves.SHALLOW, 7);
        w.drop(5, 3, 40);
        w.drop(2, 3, -40);
        w.pass(1);
        Due.due("40 * 7 / 16 / 2", 10008, w.cell(6, 3, 1));
        Due.due("-40 * 7 / 16 / 2", 9992, w.cell(1, 3, 1));
        greatHeights(999, 19999, 18749);
        greatHeights(-999, 1, 1251);
        DippedWaves rubbed = calmed(500);
        rubbed.set(DippedWaves.DEEP, 1);
        for (int i = 0; i < 11; i++) {
            rubbed.drop(7, 3, 999);
        }
        Due.due("17499 - 17499 * 500 / 1000", 18750, rubbed.ifPassed(7, 3, 1));
        cornersAndWalls();
        allSides();
        aheadCounts();
    }

    /** 2 * 9999 - 4 * 9999 / 16 = 17499, which is brought to 9999; on a beach it is halved before. */
    private static void greatHeights(int by, int deep, int beach) {
        DippedWaves w = calmed(0);
        w.set(DippedWaves.DEEP, 1);
        w.set(DippedWaves.SHALLOW, 1);
        w.floor(2, 2, 3);
        for (int i = 0; i < 11; i++) {
            w.drop(7, 3, by);
            w.drop(2, 2, by);
        }
        w.pass(1);
        Due.due("brought to the bound", deep, w.cell(7, 3, 1));
        Due.due("halved first", beach, w.cell(2, 2, 1));
    }

    private static void cornersAndWalls() {
        DippedWaves w = calmed(0);
        w.drop(0, 0, 160);
        w.drop(5, 3, 160);
        w.floor(5, 2, 2);
        w.floor(4, 3, 2);
        w.floor(6, 3, 2);
        Due.due("two sides", 99680, w.cell(0, 0, 3));
        Due.due("one side", 99840, w.cell(5, 3, 3));
        w.pass(1);
        Due.due("in the corner", 10160, w.cell(0, 0, 1));
        Due.due("among walls", 10240, w.cell(5, 3, 1));
        Due.due("beyond the walls", 10000, w.cell(7, 3, 1));
        Due.due("a wall", 10000, w.cell(4, 3, 1));
        Due.due("no way round the edge", 10000, w.cell(9, 1, 1));
    }

    private static void allSides() {
        DippedWaves w = calmed(0);
        int[][] sides = {{1, 0}, {-1, 0}, {0, 1}, {0, -1}};
        for (int y = 0; y < 6; y++) {
            for (int x = 0; x < 10; x++) {
                w.drop(x, y, 1);
                int many = 0;
                for (int[] side : sides) {
                    int slope = w.cell(x + side[0], y + side[1], 3);
                    Due.holds("a side of " + x + ", " + y, slope == 100001 || slope == NO_SUCH);
                    many += slope == NO_SUCH ? 0 : 1;
                }
                Due.due("the slope of " + x + ", " + y, 100000 - many, w.cell(x, y, 3));
                w.drop(x, y, -1);
            }
        }
    }

    private static void aheadCounts() {
        DippedWaves w = calmed(0);
        w.drop(5, 3, 160);
        w.pass(2);
        Due.due("0 - 160 + 320 * 8 / 16", 10000, w.cell(5, 3, 1));
        Due.due("160 - 0 + (0 - 320 + 0) * 8 / 16", 10000, w.cell(6, 3, 1));
        Due.due("two cells off", 10040, w.cell(7, 3, 1));
        Due.due("aslant", 10080, w.cell(6, 4, 1));
    }

    private static void firstTicks() {
        Due.part("promise 10, first ticks");
        DippedWaves w = calmed(0);
        w.pass(3);
        w.drop(5, 3, 10);
        Due.due("ahead of the tick", NONE, w.cell(5, 3, 5));
        w.pass(1);
        Due.due("5 is not above STILL", NONE, w.cell(6, 3, 5));
        Due.due("0 is not above STILL", NONE, w.cell(5, 3, 5));
        w.drop(5, 3, -12);
        w.pass(1);
        Due.due("a height of -6", 9994, w.cell(6, 3, 1));
        Due.due("-6 is above STILL without its sign", 4, w.cell(6, 3, 5));
        Due.due("0 still is not", NONE, w.cell(5, 3, 5));
        w.dip(0, 0, 2, 6, 0);
        w.pass(1);
        Due.due("a dipper's size is", 5, w.cell(0, 0, 5));
        w.pass(5);
        Due.due("the first one stays", 5, w.cell(0, 0, 5));
        w.dip(9, 5, 2, 5, 0);
        w.set(DippedWaves.STILL, 4);
        w.pass(1);
        Due.due("with another STILL", 11, w.cell(9, 5, 5));
        w.set(DippedWaves.STILL, 500);
        Due.due("it stays with a greater STILL", 11, w.cell(9, 5, 5));
    }

    // ---- 11

    private static void cell() {
        Due.part("promise 11");
        DippedWaves w = new DippedWaves();
        int[][] noCells = {{-1, 0}, {10, 0}, {0, -1}, {0, 6}, {Integer.MIN_VALUE, 0}, {0, Integer.MAX_VALUE}};
        for (int[] c : noCells) {
            Due.due("no cell, and no what", NO_SUCH, w.cell(c[0], c[1], 7));
        }
        for (int what : new int[] {-1, 7, Integer.MIN_VALUE, Integer.MAX_VALUE}) {
            Due.due("what " + what, BAD_VALUE, w.cell(0, 0, what));
        }
        w.floor(4, 3, 2);
        w.drop(5, 3, 300);
        w.drop(5, 2, -100);
        int[] wall = {2, 10000, 10000, 100000, 1, NONE, NONE};
        for (int what = 0; what < wall.length; what++) {
            Due.due("a wall's " + what, wall[what], w.cell(4, 3, what));
        }
        Due.due("the slope with a wall at a side", 100000 - 400 - 300 - 300, w.cell(5, 3, 3));
        Due.due("the slope of a low cell", 100000 + 100 + 100 + 100 + 400, w.cell(5, 2, 3));
        w.dip(5, 3, 4, 200, 0);
        w.dip(5, 3, 4, 250, 0);
        w.dip(0, 0, 4, 250, 0);
        Due.due("the last dipper", 1, w.cell(5, 3, 6));
        Due.due("another dipper", 2, w.cell(0, 0, 6));
        Due.due("no dipper", NONE, w.cell(5, 2, 6));
        w.pass(1);
        Due.due("now", 9750, w.cell(5, 3, 1));
        Due.due("ahead", 10300, w.cell(5, 3, 2));
        Due.due("not still", 0, w.cell(5, 3, 4));
        Due.due("still", 1, w.cell(9, 0, 4));
        Due.due("first tick", 0, w.cell(5, 3, 5));
        stillNeedsBoth();
    }

    private static void stillNeedsBoth() {
        DippedWaves w = calmed(0);
        w.drop(5, 3, -20);
        Due.due("loud now", 0, w.cell(5, 3, 4));
        w.pass(1);
        Due.due("nothing now", 10000, w.cell(5, 3, 1));
        Due.due("loud ahead", 0, w.cell(5, 3, 4));
        w.set(DippedWaves.STILL, 20);
        Due.due("at STILL", 1, w.cell(5, 3, 4));
    }

    // ---- 12

    private static void dipper() {
        Due.part("promise 12");
        DippedWaves w = new DippedWaves();
        Due.due("none, and no what", NO_SUCH, w.dipper(0, 6));
        w.dip(7, 4, 5, 321, 3);
        int[] about = {7, 4, 5, 321, 3, 1};
        for (int what = 0; what < about.length; what++) {
            Due.due("dipper(0, " + what + ")", about[what], w.dipper(0, what));
        }
        for (int what : new int[] {-1, 6, Integer.MIN_VALUE, Integer.MAX_VALUE}) {
            Due.due("what " + what, BAD_VALUE, w.dipper(0, what));
        }
        for (int dipper : new int[] {-1, 1, Integer.MIN_VALUE, Integer.MAX_VALUE}) {
            Due.due("dipper " + dipper, NO_SUCH, w.dipper(dipper, 6));
        }
        int[] up = {1, 1, 0, 0, 1, 1, 1, 0};
        for (int tick = 0; tick < up.length; tick++) {
            Due.due("up in the tick " + tick, up[tick], w.dipper(0, 5));
            w.pass(1);
        }
    }

    // ---- 13

    private static void ofProbe() {
        Due.part("promise 13");
        DippedWaves w = new DippedWaves();
        Due.due("none, and no what", NO_SUCH, w.ofProbe(0, 5));
        w.probe(7, 4);
        int[] about = {7, 4, 0, NONE, NONE};
        for (int what = 0; what < about.length; what++) {
            Due.due("ofProbe(0, " + what + ")", about[what], w.ofProbe(0, what));
        }
        for (int what : new int[] {-1, 5, Integer.MIN_VALUE, Integer.MAX_VALUE}) {
            Due.due("what " + what, BAD_VALUE, w.ofProbe(0, what));
        }
        for (int probe : new int[] {-1, 1, Integer.MIN_VALUE, Integer.MAX_VALUE}) {
            Due.due("probe " + probe, NO_SUCH, w.ofProbe(probe, 5));
        }
        w.dip(7, 4, 10, 50, 0);
        w.pass(5);
        Due.due("the greatest of low ones", 9950, w.ofProbe(0, 4));
        w.pass(1);
        Due.due("the greatest with a high one", 10050, w.ofProbe(0, 4));
        Due.due("six", 6, w.ofProbe(0, 2));
        w.pass(4);
        for (int i = 0; i < 7; i++) {
            Due.due("the greatest does not lessen", 10050, w.ofProbe(0, 4));
            w.pass(1);
        }
        w.clear();
        w.pass(5);
        Due.due("low ones again", 9950, w.ofProbe(0, 4));
        w.pass(1);
        Due.due("the greatest is the latest", 10050, w.ofProbe(0, 4));
        w.takeOut(0);
        w.set(DippedWaves.RUB, 500);
        w.pass(1);
        Due.due("the greatest is the one before", 10050, w.ofProbe(0, 4));
        w.pass(17);
        Due.due("kept as the oldest but a few", 10050, w.ofProbe(0, 4));
        w.pass(5);
        Due.due("24", 24, w.ofProbe(0, 2));
        Due.due("kept as the oldest", 10050, w.seen(0, 23));
        Due.due("the greatest is the oldest", 10050, w.ofProbe(0, 4));
        w.pass(1);
        Due.holds("and gone", w.ofProbe(0, 4) < 10050);
    }

    private static void beat() {
        Due.part("promise 13, the beat");
        for (int period = 2; period <= 12; period++) {
            DippedWaves w = new DippedWaves();
            w.dip(5, 3, period, 500, 0);
            w.probe(5, 3);
            w.pass(23);
            Due.due("the beat of 23 heights", NONE, w.ofProbe(0, 3));
            w.pass(1);
            Due.due("the beat of a dipper of period " + period, period, w.ofProbe(0, 3));
        }
        DippedWaves w = new DippedWaves();
        w.probe(0, 0);
        w.pass(24);
        Due.due("of several the least one", 2, w.ofProbe(0, 3));
        w.clear();
        Due.due("none behind clear", NONE, w.ofProbe(0, 3));
        longBeats();
    }

    /** A dipper beats longer than any lag: the sums are counted here from what seen(..) tells. */
    private static void longBeats() {
        for (int period = 13; period <= 40; period++) {
            DippedWaves w = new DippedWaves();
            w.dip(2, 3, period, 700, 0);
            w.probe(6, 2);
            w.pass(60);
            int[] seen = new int[24];
            for (int ago = 0; ago < 24; ago++) {
                seen[ago] = w.seen(0, ago);
            }
            int best = NONE;
            long least = Long.MAX_VALUE;
            for (int lag = 2; lag <= 12; lag++) {
                long sum = 0;
                for (int k = 0; k <= 11; k++) {
                    sum += Math.abs(seen[k] - seen[k + lag]);
                }
                if (sum < least) {
                    least = sum;
                    best = lag;
                }
            }
            Due.due("the beat beside a dipper of period " + period, best, w.ofProbe(0, 3));
        }
    }

    // ---- 14

    private static void seen() {
        Due.part("promise 14");
        DippedWaves w = new DippedWaves();
        Due.due("no probe", NO_SUCH, w.seen(0, 0));
        w.probe(5, 3);
        Due.due("nothing yet", NO_SUCH, w.seen(0, 0));
        w.dip(5, 3, 3, 40, 0);
        w.pass(4);
        int[] latest = {9960, 10040, 10040, 9960};
        for (int ago = 0; ago < latest.length; ago++) {
            Due.due("seen(0, " + ago + ")", latest[ago], w.seen(0, ago));
        }
        for (int ago : new int[] {4, -1, Integer.MIN_VALUE, Integer.MAX_VALUE}) {
            Due.due("seen(0, " + ago + ")", NO_SUCH, w.seen(0, ago));
        }
        for (int probe : new int[] {-1, 1, Integer.MIN_VALUE, Integer.MAX_VALUE}) {
            Due.due("seen(" + probe + ", 0)", NO_SUCH, w.seen(probe, 0));
        }
        w.pass(100);
        Due.due("the oldest", 10040, w.seen(0, 21));
        Due.due("24 ago", NO_SUCH, w.seen(0, 24));
        w.drop(5, 3, 77);
        Due.due("a drop is not seen", w.cell(5, 3, 1) - 77, w.seen(0, 0));
    }

    // ---- 15

    private static void count() {
        Due.part("promise 15");
        DippedWaves w = new DippedWaves();
        for (int what : new int[] {-1, 15, Integer.MIN_VALUE, Integer.MAX_VALUE}) {
            Due.due("count(" + what + ")", BAD_VALUE, w.count(what));
        }
        w.floor(1, 0, 2);
        w.drop(3, 3, 200);
        w.drop(7, 3, -300);
        w.set(0, 1);
        w.set(1, 2);
        w.set(2, 4);
        w.set(3, 6);
        w.dip(0, 0, 2, 900, 0);
        w.dip(0, 1, 2, 900, 0);
        w.probe(0, 0);
        type(w, "abc");
        long[] counts = {0, 59, 57, 999900, 500, 300, 0, 2, 1, 1, 2, 4, 6, 3, 6};
        for (int what = 0; what < counts.length; what++) {
            Due.due("count(" + what + ")", counts[what], w.count(what));
        }
        w.pass(1);
        Due.due("one tick", 1, w.count(0));
        Due.due("waves have come to", 2 + 2 + 8, w.count(6));
        w = new DippedWaves();
        w.drop(3, 3, 9);
        Due.due("a drop is no wave", 0, w.count(6));
        w = new DippedWaves();
        for (int y = 0; y < 6; y++) {
            for (int x = 0; x < 10; x++) {
                w.drop(x, y, 10 * y - 100 * (x % 2) - 6);
            }
        }
        Due.due("the sum of all", 1000000 + 1500 - 3000 - 360, w.count(3));
        Due.due("without their signs", 5 * (6 + 4 + 14 + 24 + 34 + 44) + 5 * (106 + 96 + 86 + 76 + 66 + 56), w.count(4));
        w.clear();
        for (int at = 0; at < 60; at++) {
            w.drop(at % 10, at / 10, 6);
        }
        w.pass(1);
        Due.due("a wave has come to all", 60, w.count(6));
    }

    // ---- 16

    private static void loudest() {
        Due.part("promise 16");
        DippedWaves w = new DippedWaves();
        for (int which : new int[] {-1, 2, Integer.MIN_VALUE, Integer.MAX_VALUE}) {
            Due.due("loudest(" + which + ")", BAD_VALUE, w.loudest(which));
        }
        Due.due("x of none", NONE, w.loudest(0));
        Due.due("y of none", NONE, w.loudest(1));
        int[][] drops = {{9, 5, 1}, {8, 5, -1}, {9, 4, 1}, {9, 3, -2}, {0, 4, 2}, {0, 0, 2}};
        int[][] found = {{9, 5}, {8, 5}, {9, 4}, {9, 3}, {9, 3}, {0, 0}};
        for (int i = 0; i < drops.length; i++) {
            w.drop(drops[i][0], drops[i][1], drops[i][2]);
            Due.due("x of drop " + i, found[i][0], w.loudest(0));
            Due.due("y of drop " + i, found[i][1], w.loudest(1));
        }
        w.drop(2, 5, -3);
        Due.due("x of a low one", 2, w.loudest(0));
        Due.due("y of a low one", 5, w.loudest(1));
        for (int at = 59; at >= 0; at--) {
            w.clear();
            w.drop(at % 10, at / 10, at - 30 == 0 ? 1 : at - 30);
            Due.due("x of the only one", at % 10, w.loudest(0));
            Due.due("y of the only one", at / 10, w.loudest(1));
        }
    }

    // ---- 17

    private static void crests() {
        Due.part("promise 17");
        DippedWaves w = new DippedWaves();
        for (int y : new int[] {-1, 6, Integer.MIN_VALUE, Integer.MAX_VALUE}) {
            Due.due("crests(" + y + ")", NO_SUCH, w.crests(y));
        }
        Due.due("none", 0, w.crests(5));
        w.drop(0, 2, 1);
        w.drop(9, 2, 1);
        Due.due("at the edges", 2, w.crests(2));
        w.drop(1, 2, 1);
        Due.due("two of one height are none", 1, w.crests(2));
        w.drop(1, 2, 4);
        Due.due("one is higher", 2, w.crests(2));
        w.drop(4, 2, 7);
        w.drop(5, 2, 6);
        Due.due("a slope is one", 3, w.crests(2));
        w.floor(4, 2, 2);
        Due.due("beside a wall", 3, w.crests(2));
        w.drop(7, 2, -5);
        Due.due("a low one is none", 3, w.crests(2));
        w.drop(6, 2, -9);
        w.drop(8, 2, -9);
        Due.due("below 0, above both", 3, w.crests(2));
        w.drop(7, 2, 5);
        Due.due("0, above both", 3, w.crests(2));
        Due.due("the rows beside", 0, w.crests(1) + w.crests(3));
        w.drop(3, 0, 5);
        w.drop(6, 5, 5);
        Due.due("the first row", 1, w.crests(0));
        Due.due("the last row", 1, w.crests(5));
    }

    // ---- 18

    private static void ifPassed() {
        Due.part("promise 18");
        DippedWaves w = new DippedWaves();
        int[][] noCells = {{-1, 0}, {10, 0}, {0, -1}, {0, 6}, {Integer.MIN_VALUE, 0}, {0, Integer.MAX_VALUE}};
        for (int[] c : noCells) {
            Due.due("no cell", NO_SUCH, w.ifPassed(c[0], c[1], 0));
        }
        for (int ticks : new int[] {0, 61, -1, Integer.MIN_VALUE, Integer.MAX_VALUE}) {
            Due.due("ifPassed(0, 0, " + ticks + ")", BAD_VALUE, w.ifPassed(0, 0, ticks));
        }
        w.dip(1, 1, 9, 600, 2);
        w.floor(3, 3, 2);
        w.drop(7, 3, 900);
        w.probe(7, 3);
        w.pass(4);
        int[] told = new int[61];
        for (int ticks = 1; ticks <= 60; ticks++) {
            told[ticks] = w.ifPassed(7, 3, ticks);
        }
        Due.due("a wall", 10000, w.ifPassed(3, 3, 60));
        Due.due("no tick passes", 4, w.count(0));
        Due.due("no probe looks", 4, w.ofProbe(0, 2));
        Due.due("no change", 5, w.count(14));
        for (int ticks = 1; ticks <= 60; ticks++) {
            w.pass(1);
            Due.due("told " + ticks + " ticks before", told[ticks], w.cell(7, 3, 1));
        }
    }

    // ---- 19

    private static void comes() {
        Due.part("promise 19");
        DippedWaves w = new DippedWaves();
        int[][] noCells = {{-1, 0}, {10, 0}, {0, -1}, {0, 6}, {Integer.MIN_VALUE, 0}, {0, Integer.MAX_VALUE}};
        for (int[] c : noCells) {
            Due.due("no cell", NO_SUCH, w.comes(c[0], c[1]));
        }
        Due.due("never", NONE, w.comes(0, 0));
        w.floor(4, 4, 2);
        w.dip(0, 0, 40, 900, 0);
        Due.due("at once", 1, w.comes(0, 0));
        Due.due("beside it", 2, w.comes(1, 0));
        Due.due("to a wall", NONE, w.comes(4, 4));
        Due.due("nothing has passed", 0, w.count(0));
        w.pass(1);
        Due.due("not still", NOT_POSSIBLE, w.comes(0, 0));
        Due.due("beside it now", 1, w.comes(1, 0));
        lateWave();
    }

    /** A long way through a shallow channel, with a first wave that comes late. */
    private static void lateWave() {
        for (int far = 1; far <= 9; far++) {
            DippedWaves w = new DippedWaves();
            w.set(DippedWaves.SHALLOW, 1);
            w.set(DippedWaves.RUB, 60);
            for (int x = 0; x < 10; x++) {
                w.floor(x, 0, 1);
                w.floor(x, 1, 2);
            }
            w.dip(0, 0, 40, 900, 0);
            int told = w.comes(far, 0);
            int due = NONE;
            for (int ticks = 1; ticks <= 80 && due == NONE; ticks++) {
                w.pass(1);
                due = w.cell(far, 0, 4) == 0 ? ticks : NONE;
            }
            Due.due("a late wave to " + far, due, told);
        }
        awaitedBound();
    }

    /** A cell that is loud for the first time behind the tick 103. */
    private static void awaitedBound() {
        DippedWaves w = new DippedWaves();
        w.set(DippedWaves.SHALLOW, 2);
        w.set(DippedWaves.RUB, 0);
        w.set(DippedWaves.STILL, 400);
        for (int x = 0; x < 10; x++) {
            w.floor(x, 0, 1);
            w.floor(x, 1, 2);
        }
        w.dip(0, 0, 13, 140, 0);
        w.pass(23);
        Due.due("81 ticks ahead", NONE, w.comes(9, 0));
        w.pass(1);
        Due.due("80 ticks ahead", 80, w.comes(9, 0));
        w.pass(79);
        Due.due("a tick ahead", 1, w.comes(9, 0));
        Due.due("still", 1, w.cell(9, 0, 4));
        w.pass(1);
        Due.due("not still", 0, w.cell(9, 0, 4));
        Due.due("it has come", NOT_POSSIBLE, w.comes(9, 0));
        Due.due("its first tick", 103, w.cell(9, 0, 5));
    }

    // ---- 20

    private static void hush() {
        Due.part("promise 20");
        DippedWaves w = new DippedWaves();
        Due.due("no dipper", NO_SUCH, w.hush(0, 0, 0, 0, 2));
        w.dip(2, 2, 6, 300, 4);
        for (int dipper : new int[] {-1, 1, Integer.MIN_VALUE, Integer.MAX_VALUE}) {
            Due.due("dipper " + dipper, NO_SUCH, w.hush(dipper, 0, 0, 0, 2));
        }
        int[][] noCells = {{-1, 0}, {10, 0}, {0, -1}, {0, 6}, {Integer.MIN_VALUE, 0}, {0, Integer.MAX_VALUE}};
        for (int[] c : noCells) {
            Due.due("no cell", NO_SUCH, w.hush(0, c[0], c[1], 0, 2));
        }
        for (int ticks : new int[] {0, 31, -1, Integer.MIN_VALUE, Integer.MAX_VALUE}) {
            Due.due("ticks " + ticks, BAD_VALUE, w.hush(0, 0, 0, ticks, 0));
        }
        for (int what : new int[] {-1, 2, Integer.MIN_VALUE, Integer.MAX_VALUE}) {
            Due.due("what " + what, BAD_VALUE, w.hush(0, 0, 0, 1, what));
        }
        Due.due("at the dipper: of several the least", 0, w.hush(0, 2, 2, 30, 0));
        Due.due("at the dipper: its size", 300, w.hush(0, 2, 2, 30, 1));
        Due.due("too far: the shift", 0, w.hush(0, 9, 5, 1, 0));
        Due.due("too far: the height", 0, w.hush(0, 9, 5, 1, 1));
        Due.due("the dipper is as it was", 4, w.dipper(0, 4));
        Due.due("nothing has passed", 0, w.count(0));
        Due.due("no change", 1, w.count(14));
        for (int period = 2; period <= 40; period += 3) {
            hushOf(period);
        }
    }

    /** The same question, asked of new tanks, one for each shift. */
    private static void hushOf(int period) {
        for (int ticks : new int[] {1, 5, 13, 30}) {
            int best = -1;
            int least = Integer.MAX_VALUE;
            for (int shift = 0; shift < period; shift++) {
                DippedWaves w = hushTank(period, shift);
                int height = Math.abs(w.ifPassed(4, 2, ticks) - 10000);
                if (height < least) {
                    least = height;
                    best = shift;
                }
            }
            DippedWaves w = hushTank(period, period - 1);
            Due.due("the shift for " + period + ", " + ticks, best, w.hush(1, 4, 2, ticks, 0));
            Due.due("the height for " + period + ", " + ticks, least, w.hush(1, 4, 2, ticks, 1));
        }
    }

    private static DippedWaves hushTank(int period, int shift) {
        DippedWaves w = new DippedWaves();
        w.dip(8, 2, 11, 500, 3);
        w.drop(3, 3, -800);
        w.floor(5, 2, 1);
        w.pass(17);
        w.dip(1, 2, period, 800, shift);
        return w;
    }

    // ---- 21

    private static void put() {
        Due.part("promise 21");
        DippedWaves w = new DippedWaves();
        long[] bad = {
            0, 32, 127, 255, -1, Long.MIN_VALUE, Long.MAX_VALUE, 0x2E00, 0x2E002E, 0x2E2E00, 0x2E2E20, 0x202E,
            0x7F2E, 0x80L << 56 | 0x2E2E2E2E2E2E2EL, 0x2E0000000000002EL, 0x0100000000000000L | 0x2E, 0x202E2E2E2E2E2E2EL,
            1L << 63 | 0x2E};
        for (long b : bad) {
            Due.due("put(" + b + ")", BAD_VALUE, w.put(b));
        }
        Due.due("nothing put", 0, w.count(13));
        Due.due("the least code", 1, w.put(33));
        Due.due("the most code", 2, w.put(126));
        Due.due("eight of the most", 10, w.put(0x7E7E7E7E7E7E7E7EL));
        Due.due("no change", 0, w.count(14));
        w.wipe();
        for (int many = 1; many <= 8; many++) {
            type(w, "........".substring(0, many));
            Due.due(many + " characters", many, w.wipe());
        }
        Due.due("'./' : the last is the lowest", 2, w.put((long) '.' << 8 | '/'));
        Due.due("its fault", 1, w.fault());
        w.wipe();
        for (int i = 1; i <= 9; i++) {
            Due.due("eight more", 8 * i, w.put(0x2E2E2E2E2E2E2E2EL));
        }
        Due.due("one too many", TOO_MANY, w.put(46));
        Due.due("one too many, and bad", BAD_VALUE, w.put(32));
        Due.due("72", 72, w.wipe());
        for (int i = 1; i <= 8; i++) {
            w.put(0x2E2E2E2E2E2E2E2EL);
        }
        Due.due("up to 71", 71, w.put(0x2E2E2E2E2E2E2EL));
        Due.due("two too many", TOO_MANY, w.put(0x2E2E));
        Due.due("nothing put", 71, w.count(13));
        Due.due("up to 72", 72, w.put(46));
    }

    // ---- 22

    private static void wipe() {
        Due.part("promise 22");
        DippedWaves w = new DippedWaves();
        Due.due("an empty pad", 0, w.wipe());
        type(w, MIXED);
        Due.due("a floor", 65, w.wipe());
        Due.due("it is empty", 0, w.wipe());
        Due.due("count(13)", 0, w.count(13));
        Due.due("fault()", 0, w.fault());
        Due.due("no change", 0, w.count(14));
    }

    // ---- 23

    private static void fault() {
        Due.part("promise 23");
        DippedWaves w = new DippedWaves();
        for (int length = 0; length <= 65; length++) {
            Due.due("the first " + length, length == 65 ? NONE : length, faultOf(w, MIXED.substring(0, length)));
        }
        Due.due("one more", 65, faultOf(w, MIXED + "."));
        Due.due("72", 65, faultOf(w, MIXED + "/......"));
        for (int at = 0; at < 65; at++) {
            char other = at % 11 == 10 ? '.' : '/';
            String text = MIXED.substring(0, at) + other + MIXED.substring(at + 1);
            Due.due("wrong at " + at, at, faultOf(w, text));
            Due.due("the first of two, at " + at, at, faultOf(w, text + "x"));
        }
        for (char sign = 33; sign <= 126; sign++) {
            boolean floor = sign == '.' || sign == '-' || sign == '#' || sign == '~';
            Due.due("the sign " + sign, floor ? 1 : 0, faultOf(w, "" + sign));
            Due.due("the sign " + sign + " behind a row", sign == '/' ? 11 : 10, faultOf(w, DEEP_ROW + sign));
        }
    }

    private static int faultOf(DippedWaves old, String text) {
        old.wipe();
        DippedWaves w = new DippedWaves();
        type(w, text);
        int fault = w.fault();
        Due.due("the pad stays", text.length(), w.count(13));
        return fault;
    }

    // ---- 24

    private static void undo() {
        Due.part("promise 24");
        DippedWaves w = new DippedWaves();
        for (int i = 1; i <= 9; i++) {
            w.set(DippedWaves.RUB, 100 + i);
            Due.due("changes to undo", Math.min(6, i), w.count(14));
        }
        for (int i = 1; i <= 6; i++) {
            Due.due("undo()", 6 - i, w.undo());
            Due.due("RUB", 109 - i, w.count(9));
        }
        Due.due("no more", NOT_POSSIBLE, w.undo());
        Due.due("RUB stays", 103, w.count(9));
        w.set(DippedWaves.RUB, 1);
        w.set(DippedWaves.RUB, 2);
        w.undo();
        w.set(DippedWaves.RUB, 3);
        Due.due("undo behind undo", 1, w.undo());
        Due.due("RUB", 1, w.count(9));
        Due.due("undo again", 0, w.undo());
        Due.due("RUB", 103, w.count(9));
        undoLeavesPadAndSlots();
    }

    private static void undoLeavesPadAndSlots() {
        DippedWaves w = new DippedWaves();
        type(w, MIXED);
        w.read();
        type(w, "ab");
        w.save(1);
        Due.due("undo of read", 0, w.undo());
        Due.due("the pad stays", 2, w.count(13));
        Due.due("60 cells again", 60, w.count(1));
        Due.due("the slot stays", 0, w.restore(1));
        Due.due("its floor", 49, w.count(1));
        Due.due("undo of restore", 0, w.undo());
        Due.due("60 cells again", 60, w.count(1));
        Due.due("the slot stays", 0, w.restore(1));
        Due.due("its floor", 49, w.count(1));
    }

    private static void undoOfEachChange() {
        Due.part("promise 24, each change");
        for (int change = 0; change < 10; change++) {
            DippedWaves w = new DippedWaves();
            w.dip(1, 1, 7, 500, 2);
            w.dip(8, 4, 5, 300, 1);
            w.probe(4, 4);
            w.floor(5, 5, 2);
            w.save(0);
            w.pass(30);
            type(w, MIXED);
            int[] before = view(w);
            int undone = w.count(14);
            int got = changed(w, change);
            Due.holds("change " + change + " answers no error", got >= 0);
            Due.due("it is kept", undone + 1, w.count(14));
            Due.due("undo()", undone, w.undo());
            int[] behind = view(w);
            for (int i = 0; i < before.length; i++) {
                Due.due("number " + i + " behind the undo of change " + change, before[i], behind[i]);
            }
        }
    }

    private static int changed(DippedWaves w, int change) {
        switch (change) {
            case 0:
                return w.set(DippedWaves.STILL, 77);
            case 1:
                return w.floor(1, 2, 2);
            case 2:
                return w.read();
            case 3:
                return w.clear();
            case 4:
                return w.dip(3, 3, 3, 3, 0);
            case 5:
                return w.takeOut(0);
            case 6:
                return w.drop(2, 2, 999);
            case 7:
                return w.probe(5, 3);
            case 8:
                return w.pass(3);
            default:
                return w.restore(0);
        }
    }

    /** All but the pad and the history; kept to the calls that an object is good for. */
    private static int[] view(DippedWaves w) {
        int[] view = new int[200];
        int many = 0;
        for (int y = 0; y < 6; y++) {
            for (int x = 0; x < 10; x++) {
                view[many++] = w.cell(x, y, 1 + (x + y) % 3);
                view[many++] = w.cell(x, y, x % 2 * 5);
            }
        }
        for (int what = 0; what <= 12; what++) {
            view[many++] = w.count(what);
        }
        for (int what = 0; what < 6; what++) {
            view[many++] = w.dipper(0, what);
            view[many++] = w.dipper(1, what);
            view[many++] = w.dipper(2, what);
            view[many++] = w.ofProbe(0, what);
            view[many++] = w.ofProbe(1, what);
        }
        for (int ago = 0; ago <= 24; ago += 4) {
            view[many++] = w.seen(0, ago);
        }
        return view;
    }

    // ---- 25

    private static void save() {
        Due.part("promise 25");
        DippedWaves w = new DippedWaves();
        for (int slot : new int[] {-1, 2, Integer.MIN_VALUE, Integer.MAX_VALUE}) {
            Due.due("save(" + slot + ")", BAD_VALUE, w.save(slot));
        }
        Due.due("save(0)", 0, w.save(0));
        w.pass(12);
        Due.due("save(1)", 12, w.save(1));
        Due.due("no change", 1, w.count(14));
        w.pass(3);
        Due.due("overwrites", 15, w.save(0));
        Due.due("restore(0)", 15, w.restore(0));
        Due.due("restore(1)", 12, w.restore(1));
        Due.due("restore(0)", 15, w.restore(0));
    }

    // ---- 26

    private static void restore() {
        Due.part("promise 26");
        DippedWaves w = new DippedWaves();
        for (int slot : new int[] {-1, 2, Integer.MIN_VALUE, Integer.MAX_VALUE}) {
            Due.due("restore(" + slot + ")", BAD_VALUE, w.restore(slot));
        }
        w.dip(1, 1, 7, 500, 2);
        w.dip(8, 4, 5, 300, 1);
        w.probe(4, 4);
        w.floor(5, 5, 2);
        w.set(DippedWaves.SHALLOW, 2);
        w.pass(26);
        w.save(0);
        Due.due("nothing in the other", NOT_POSSIBLE, w.restore(1));
        Due.due("no change", 6, w.count(14));
        int[] before = view(w);
        type(w, MIXED);
        w.read();
        w.set(DippedWaves.SHALLOW, 7);
        w.drop(0, 0, 5);
        w.undo();
        w.undo();
        type(w, "xyz");
        int undone = w.count(14);
        Due.due("restore(0)", 26, w.restore(0));
        Due.due("is a change", undone + 1, w.count(14));
        Due.due("the pad stays", 3, w.count(13));
        int[] behind = view(w);
        for (int i = 0; i < before.length; i++) {
            Due.due("number " + i, before[i], behind[i]);
        }
        w.pass(4);
        w.wipe();
        type(w, MIXED);
        w.read();
        w.probe(7, 0);
        w.dip(7, 0, 3, 3, 0);
        Due.due("it is kept in the slot", 26, w.restore(0));
        Due.due("with the probe's column", 4, w.ofProbe(0, 0));
        Due.due("with the probe's row", 4, w.ofProbe(0, 1));
        Due.due("and again", 26, w.restore(0));
    }

    private static void constants() {
        Due.part("the constants");
        int[] want = {-1, -2, -3, -4, -5, -6, 0, 1, 2, 3};
        int[] got = {
            DippedWaves.NO_SUCH, DippedWaves.BAD_VALUE, DippedWaves.BAD_TEXT, DippedWaves.TOO_MANY,
            DippedWaves.NOT_POSSIBLE, DippedWaves.NONE, DippedWaves.RUB, DippedWaves.DEEP, DippedWaves.SHALLOW,
            DippedWaves.STILL};
        for (int i = 0; i < want.length; i++) {
            Due.due("constant " + i, want[i], got[i]);
        }
    }

    // ---- helpers

    private static DippedWaves calmed(int rub) {
        DippedWaves w = new DippedWaves();
        w.set(DippedWaves.RUB, rub);
        return w;
    }

    /** Puts a text, up to eight characters a call. */
    private static void type(DippedWaves w, String text) {
        for (int from = 0; from < text.length(); from += 8) {
            long packed = 0;
            for (int i = from; i < Math.min(text.length(), from + 8); i++) {
                packed = packed << 8 | text.charAt(i);
            }
            Due.holds("the pad takes a part of " + text, w.put(packed) > 0);
        }
    }
}
