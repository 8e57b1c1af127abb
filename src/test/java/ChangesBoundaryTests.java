/** The boundary cases of the promises 1 to 10: a new object, and the changes. */
public final class ChangesBoundaryTests extends Boundary {
    private static final String[] SETTINGS = {"RUB", "DEEP", "SHALLOW", "STILL"};
    private static final int[] FIRST = {10, 8, 3, 5};
    private static final int[] LEAST = {0, 1, 1, 0};
    private static final int[] MOST = {500, 8, 8, 500};

    private ChangesBoundaryTests() {
    }

    public static void main(String[] args) {
        newObject();
        set();
        floor();
        floorUnderDippers();
        read();
        readForgets();
        clear();
        dip();
        dipFull();
        takeOut();
        drop();
        probe();
        pass();
        lastTick();
        Due.end("ChangesBoundaryTests");
    }

    // ---- 1

    private static void newObject() {
        int[] counts = {0, 60, 60, 1000000, 0, 0, 0, 0, 0, 10, 8, 3, 5, 0, 0};
        for (int i = 0; i < counts.length; i++) {
            int what = i;
            good("promise 1, a new object: count(" + what + ")", Boundary::fresh, counts[i], w -> w.count(what));
        }
        good("promise 1, a new object: no dipper", Boundary::fresh, NO_SUCH, w -> w.dipper(0, 0));
        good("promise 1, a new object: no probe", Boundary::fresh, NO_SUCH, w -> w.ofProbe(0, 0));
        good("promise 1, a new object: the pad is empty", Boundary::fresh, 0, w -> w.wipe());
        good("promise 1, a new object: no history", Boundary::fresh, NOT_POSSIBLE, w -> w.undo());
        good("promise 1, a new object: nothing in the first slot", Boundary::fresh, NOT_POSSIBLE, w -> w.restore(0));
        good("promise 1, a new object: nothing in the last slot", Boundary::fresh, NOT_POSSIBLE, w -> w.restore(1));
        test("promise 1, a new object: it shares nothing with one that was used before", () -> {
            DippedWaves used = tank(Boundary::rich);
            used.set(DEEP, 2);
            used.save(1);
            DippedWaves w = new DippedWaves();
            for (int what = 0; what < counts.length; what++) {
                Due.due("count(" + what + ")", counts[what], w.count(what));
            }
            Due.due("restore(0)", NOT_POSSIBLE, w.restore(0));
            Due.due("restore(1)", NOT_POSSIBLE, w.restore(1));
            Due.due("undo()", NOT_POSSIBLE, w.undo());
        });
        test("promise 1, a new object: one that is used does not change another", () -> {
            DippedWaves w = tank(Boundary::rich);
            int sum = w.count(4);
            DippedWaves other = tank(Boundary::rich);
            other.pass(20);
            other.clear();
            Due.due("sum", sum, w.count(4));
            Due.due("the present tick", 22, w.count(0));
            Due.due("dippers", 3, w.count(7));
        });
    }

    // ---- 2

    private static void set() {
        for (int i = 0; i < SETTINGS.length; i++) {
            int setting = i;
            String name = "promise 2, set: " + SETTINGS[i] + ": ";
            int least = LEAST[i];
            int most = MOST[i];
            good(name + "the first value is answered as the previous one", Boundary::fresh, FIRST[i],
                w -> w.set(setting, most));
            takes(name + "the least value, " + least, setting, least);
            takes(name + "the most value, " + most, setting, most);
            refused(name + "just below the least value, " + (least - 1), Boundary::rich, BAD_VALUE,
                w -> w.set(setting, least - 1));
            refused(name + "just above the most value, " + (most + 1), Boundary::rich, BAD_VALUE,
                w -> w.set(setting, most + 1));
            for (int far : FAR) {
                refused(name + "far away, " + far, Boundary::rich, BAD_VALUE, w -> w.set(setting, far));
            }
            recorded(name + "the same value is a change, too", Boundary::rich,
                w -> w.set(setting, w.count(9 + setting)));
            recorded(name + "another value is a change", Boundary::rich, w -> w.set(setting, most));
        }
        good("promise 2, set: SHALLOW may be above DEEP", w -> w.set(DEEP, 1), 3, w -> w.set(SHALLOW, 8));
        good("promise 2, set: DEEP may be below SHALLOW", w -> w.set(SHALLOW, 8), 8, w -> w.set(DEEP, 1));
        for (int setting : new int[] {-1, 4, Integer.MIN_VALUE, Integer.MAX_VALUE}) {
            refused("promise 2, set: no setting " + setting, Boundary::rich, BAD_VALUE, w -> w.set(setting, 5));
            refused("promise 2, set: no setting " + setting + ", and no value", Boundary::rich, BAD_VALUE,
                w -> w.set(setting, -1));
        }
    }

    private static void takes(String name, int setting, int value) {
        test(name, () -> {
            DippedWaves w = new DippedWaves();
            Due.due("the previous one", FIRST[setting], w.set(setting, value));
            for (int i = 0; i < 4; i++) {
                Due.due("setting " + i, i == setting ? value : FIRST[i], w.count(9 + i));
            }
            Due.due("the previous one then", value, w.set(setting, FIRST[setting]));
        });
    }

    // ---- 3

    private static void floor() {
        corners("promise 3, floor", Boundary::fresh, 0, (w, x, y) -> w.floor(x, y, 3));
        noCells("promise 3, floor", Boundary::rich, (w, x, y) -> w.floor(x, y, 0));
        noCells("promise 3, floor, NO_SUCH ahead of BAD_VALUE", Boundary::rich, (w, x, y) -> w.floor(x, y, 4));
        for (int i = 0; i <= 3; i++) {
            int floor = i;
            test("promise 3, floor: " + floor + " is good", () -> {
                DippedWaves w = new DippedWaves();
                Due.due("the previous one", 0, w.floor(5, 3, floor));
                Due.due("its floor", floor, w.cell(5, 3, 0));
                Due.due("the previous one then", floor, w.floor(5, 3, 3 - floor));
                Due.due("the floor beside it", 0, w.cell(6, 3, 0));
            });
        }
        for (int floor : new int[] {-1, 4, Integer.MIN_VALUE, Integer.MAX_VALUE}) {
            refused("promise 3, floor: out of range, " + floor, Boundary::rich, BAD_VALUE, w -> w.floor(5, 5, floor));
            refused("promise 3, floor: out of range at a dipper, " + floor, Boundary::rich, BAD_VALUE,
                w -> w.floor(1, 1, floor));
        }
        recorded("promise 3, floor: another one is a change", Boundary::rich, w -> w.floor(5, 5, 2));
        recorded("promise 3, floor: the same again is a change, too", Boundary::rich, w -> w.floor(3, 1, 2));
        test("promise 3, floor: a wall that is laid again is a wall without heights", () -> {
            DippedWaves w = pooled(40, 70);
            w.floor(5, 3, 2);
            Due.due("the previous one", 2, w.floor(5, 3, 2));
            Due.due("its height", 10000, w.cell(5, 3, 1));
        });
        for (int i : new int[] {0, 1, 3}) {
            test("promise 3, floor: " + i + " keeps the heights", () -> {
                DippedWaves w = pooled(40, 70);
                w.floor(5, 3, i);
                Due.due("now", 10070, w.cell(5, 3, 1));
                Due.due("ahead", 10040, w.cell(5, 3, 2));
            });
        }
        test("promise 3, floor: a wall makes one cell less that is no wall", () -> {
            DippedWaves w = new DippedWaves();
            w.floor(9, 5, 2);
            Due.due("cells", 59, w.count(1));
            w.floor(9, 5, 0);
            Due.due("cells again", 60, w.count(1));
        });
    }

    private static void floorUnderDippers() {
        refused("promise 3, floor: no wall where a dipper is", Boundary::rich, NOT_POSSIBLE, w -> w.floor(1, 1, 2));
        refused("promise 3, floor: no wall where the last dipper is", Boundary::rich, NOT_POSSIBLE,
            w -> w.floor(5, 3, 2));
        refused("promise 3, floor: no wall where the fifth dipper is", Boundary::fiveDippers, NOT_POSSIBLE,
            w -> w.floor(8, 4, 2));
        for (int floor : new int[] {0, 1, 3}) {
            good("promise 3, floor: " + floor + " is good where a dipper is", Boundary::rich, 0,
                w -> w.floor(1, 1, floor));
        }
        good("promise 3, floor: a wall beside a dipper is good", Boundary::rich, 0, w -> w.floor(2, 1, 2));
        good("promise 3, floor: a wall where a probe is, is good", Boundary::rich, 0, w -> w.floor(2, 2, 2));
        good("promise 3, floor: a wall where the dipper was taken out is good", w -> {
            w.dip(5, 3, 2, 1, 0);
            w.takeOut(0);
        }, 0, w -> w.floor(5, 3, 2));
        refused("promise 3, floor: no wall where one of two dippers was taken out", w -> {
            w.dip(5, 3, 2, 1, 0);
            w.dip(5, 3, 2, 1, 0);
            w.takeOut(0);
        }, NOT_POSSIBLE, w -> w.floor(5, 3, 2));
    }

    // ---- 4

    private static void read() {
        unread("the empty pad", "");
        unread("a pad that ends one too early", MIXED.substring(0, 64));
        unread("a pad with one more", MIXED + ".");
        unread("the full pad", MIXED + "/......");
        unread("a pad with a wrong first one", "x" + MIXED.substring(1));
        unread("a pad with a wrong last one", MIXED.substring(0, 64) + "/");
        unread("a pad without the first slash", MIXED.substring(0, 10) + "." + MIXED.substring(11));
        unread("a pad of five rows", MIXED.substring(0, 54));
        good("promise 4, read: a floor of 65 characters", w -> type(w, MIXED), MIXED_OPEN, w -> w.read());
        good("promise 4, read: no cell is a wall", w -> type(w, rows(DEEP_ROW)), 60, w -> w.read());
        good("promise 4, read: each cell is a wall", w -> type(w, rows(WALL_ROW)), 0, w -> w.read());
        recorded("promise 4, read: is a change", w -> {
            rich(w);
            w.wipe();
        }, w -> {
            type(w, MIXED);
            return w.read();
        });
        test("promise 4, read: the pad is empty then, and cannot be read again", () -> {
            DippedWaves w = tank(v -> type(v, MIXED));
            w.read();
            Due.due("length", 0, w.count(13));
            Due.due("fault", 0, w.fault());
            Due.due("read again", BAD_TEXT, w.read());
            Due.due("the floor stays", MIXED_OPEN, w.count(1));
        });
        test("promise 4, read: each cell has the floor of its character", () -> {
            DippedWaves w = tank(v -> type(v, MIXED));
            w.read();
            for (int at = 0; at < 60; at++) {
                char sign = MIXED.charAt(at / 10 * 11 + at % 10);
                Due.due("floor " + at, ".-#~".indexOf(sign), w.cell(at % 10, at / 10, 0));
            }
        });
        test("promise 4, read: walls alone: waves go nowhere", () -> {
            DippedWaves w = tank(v -> type(v, rows(WALL_ROW)));
            w.read();
            Due.due("pass", 0, w.pass(100));
            Due.due("still cells", 0, w.count(2));
            Due.due("loudest", NONE, w.loudest(0));
            Due.due("crests", 0, w.crests(0));
            Due.due("a drop", NOT_POSSIBLE, w.drop(0, 0, 1));
            Due.due("a dipper", NOT_POSSIBLE, w.dip(9, 5, 2, 1, 0));
        });
    }

    private static String rows(String row) {
        return row + "/" + row + "/" + row + "/" + row + "/" + row + "/" + row;
    }

    private static void unread(String name, String text) {
        refused("promise 4, read: " + name + " is refused", w -> {
            rich(w);
            w.wipe();
            type(w, text);
        }, BAD_TEXT, w -> w.read());
    }

    private static void readForgets() {
        Steps made = w -> {
            rich(w);
            w.wipe();
            type(w, rows(DEEP_ROW));
            w.read();
        };
        good("promise 4, read: all heights are 0 then", made, 0, w -> w.count(4));
        test("promise 4, read: all heights ahead are 0 then", () -> {
            DippedWaves w = tank(made);
            for (int at = 0; at < 60; at++) {
                Due.due("ahead " + at, 10000, w.cell(at % 10, at / 10, 2));
            }
        });
        good("promise 4, read: no dippers then", made, 0, w -> w.count(7));
        good("promise 4, read: no probes then", made, 0, w -> w.count(8));
        good("promise 4, read: the present tick is 0 then", made, 0, w -> w.count(0));
        good("promise 4, read: no first ticks are kept then", made, 0, w -> w.count(6));
        good("promise 4, read: RUB stays", made, 7, w -> w.count(9));
        good("promise 4, read: SHALLOW stays", made, 5, w -> w.count(11));
        good("promise 4, read: a slot stays", made, 15, w -> w.restore(0));
        good("promise 4, read: a new dipper is the first one again", made, 0, w -> w.dip(0, 0, 2, 1, 0));
        test("promise 4, read: a new probe is the first one again, and keeps nothing", () -> {
            DippedWaves w = tank(made);
            Due.due("its number", 0, w.probe(2, 2));
            Due.due("kept", 0, w.ofProbe(0, 2));
        });
    }

    // ---- 5

    private static void clear() {
        good("promise 5, clear: still water, 0", Boundary::fresh, 0, w -> w.clear());
        recorded("promise 5, clear: still water is a change, too", Boundary::fresh, w -> w.clear());
        recorded("promise 5, clear: is a change", Boundary::rich, w -> w.clear());
        good("promise 5, clear: the sum is without signs", w -> {
            w.drop(0, 0, 30);
            w.drop(9, 5, -50);
        }, 80, w -> w.clear());
        good("promise 5, clear: the heights ahead are not summed", w -> {
            pool(w);
            w.drop(5, 3, 40);
            w.pass(1);
            w.drop(5, 3, -73);
        }, 7, w -> w.clear());
        test("promise 5, clear: the least and the greatest heights are summed", () -> {
            DippedWaves w = new DippedWaves();
            raise(w, 0, 0, 9999);
            raise(w, 9, 5, -9999);
            Due.due("clear()", 19998, w.clear());
        });
        Steps made = w -> {
            rich(w);
            w.clear();
        };
        good("promise 5, clear: all heights are 0 then", made, 0, w -> w.count(4));
        test("promise 5, clear: all heights ahead are 0 then", () -> {
            DippedWaves w = tank(made);
            for (int at = 0; at < 60; at++) {
                Due.due("ahead " + at, 10000, w.cell(at % 10, at / 10, 2));
            }
        });
        good("promise 5, clear: all cells are still then", made, 59, w -> w.count(2));
        good("promise 5, clear: the present tick is 0 then", made, 0, w -> w.count(0));
        good("promise 5, clear: no first ticks are kept then", made, 0, w -> w.count(6));
        good("promise 5, clear: probes stay", made, 2, w -> w.count(8));
        good("promise 5, clear: the first probe keeps nothing", made, 0, w -> w.ofProbe(0, 2));
        good("promise 5, clear: the last probe keeps nothing", made, 0, w -> w.ofProbe(1, 2));
        good("promise 5, clear: dippers stay", made, 3, w -> w.count(7));
        good("promise 5, clear: a wall stays", made, 2, w -> w.cell(3, 1, 0));
        good("promise 5, clear: a shallow stays", made, 1, w -> w.cell(4, 4, 0));
        good("promise 5, clear: a beach stays", made, 3, w -> w.cell(7, 2, 0));
        good("promise 5, clear: settings stay", made, 7, w -> w.count(9));
        good("promise 5, clear: the pad stays", made, 20, w -> w.count(13));
        good("promise 5, clear: a slot stays", made, 15, w -> w.restore(0));
        test("promise 5, clear: dippers beat by the ticks from 0 again", () -> {
            DippedWaves w = tank(v -> v.dip(5, 3, 40, 900, 0));
            w.pass(25);
            w.clear();
            Due.due("down again", 0, w.dipper(0, 5));
        });
    }

    // ---- 6

    private static void dip() {
        corners("promise 6, dip", Boundary::fresh, 0, (w, x, y) -> w.dip(x, y, 2, 1, 0));
        noCells("promise 6, dip", Boundary::rich, (w, x, y) -> w.dip(x, y, 4, 100, 0));
        noCells("promise 6, dip, NO_SUCH ahead of BAD_VALUE", Boundary::rich, (w, x, y) -> w.dip(x, y, 1, 0, -1));
        noCells("promise 6, dip, NO_SUCH ahead of TOO_MANY", Boundary::fiveDippers,
            (w, x, y) -> w.dip(x, y, 4, 100, 0));
        puts("the least period, 2, and its first shift, 0", 2, 1, 0);
        puts("the least period, 2, and its last shift, 1", 2, 1, 1);
        puts("the most period, 40, and its last shift, 39", 40, 1, 39);
        puts("the most size, 900", 7, 900, 3);
        int[][] bad = {
            {1, 100, 0}, {41, 100, 0}, {0, 100, 0}, {-2, 100, 0}, {4, 0, 0}, {4, 901, 0}, {4, -1, 0}, {4, 100, -1},
            {4, 100, 4}, {2, 100, 2}, {40, 100, 40}, {Integer.MIN_VALUE, 100, 0}, {Integer.MAX_VALUE, 100, 0},
            {4, Integer.MIN_VALUE, 0}, {4, Integer.MAX_VALUE, 0}, {4, 100, Integer.MIN_VALUE},
            {4, 100, Integer.MAX_VALUE}};
        for (int[] b : bad) {
            String name = "period " + b[0] + ", size " + b[1] + ", shift " + b[2];
            refused("promise 6, dip: out of range: " + name, Boundary::rich, BAD_VALUE,
                w -> w.dip(5, 5, b[0], b[1], b[2]));
            refused("promise 6, dip: BAD_VALUE ahead of NOT_POSSIBLE: " + name, Boundary::rich, BAD_VALUE,
                w -> w.dip(3, 1, b[0], b[1], b[2]));
            refused("promise 6, dip: BAD_VALUE ahead of TOO_MANY: " + name, Boundary::fiveDippers, BAD_VALUE,
                w -> w.dip(5, 5, b[0], b[1], b[2]));
        }
        refused("promise 6, dip: not in a wall", Boundary::rich, NOT_POSSIBLE, w -> w.dip(3, 1, 4, 100, 0));
        good("promise 6, dip: in a shallow", Boundary::rich, 3, w -> w.dip(4, 4, 4, 100, 0));
        good("promise 6, dip: on a beach", Boundary::rich, 3, w -> w.dip(7, 2, 4, 100, 0));
        good("promise 6, dip: in a cell that was a wall", w -> {
            w.floor(5, 3, 2);
            w.floor(5, 3, 0);
        }, 0, w -> w.dip(5, 3, 4, 100, 0));
        good("promise 6, dip: in a cell with a dipper", Boundary::rich, 3, w -> w.dip(1, 1, 6, 400, 2));
        recorded("promise 6, dip: is a change", Boundary::rich, w -> w.dip(1, 1, 4, 100, 0));
        test("promise 6, dip: the heights are as they were until a tick is over", () -> {
            DippedWaves w = tank(v -> v.drop(5, 3, 77));
            w.dip(5, 3, 4, 100, 0);
            Due.due("the height", 77, height(w, 5, 3));
        });
    }

    private static void puts(String name, int period, int size, int shift) {
        test("promise 6, dip: " + name, () -> {
            DippedWaves w = new DippedWaves();
            Due.due("its number", 0, w.dip(9, 4, period, size, shift));
            int[] want = {9, 4, period, size, shift};
            for (int what = 0; what < want.length; what++) {
                Due.due("dipper(0, " + what + ")", want[what], w.dipper(0, what));
            }
        });
    }

    private static void dipFull() {
        test("promise 6, dip: the fifth is good", () -> {
            DippedWaves w = new DippedWaves();
            for (int i = 0; i < 5; i++) {
                Due.due("its number", i, w.dip(5, 3, 4, 100, 0));
            }
        });
        refused("promise 6, dip: the sixth is one too many", Boundary::fiveDippers, TOO_MANY,
            w -> w.dip(5, 5, 4, 100, 0));
        refused("promise 6, dip: NOT_POSSIBLE ahead of TOO_MANY", Boundary::fiveDippers, NOT_POSSIBLE,
            w -> w.dip(3, 1, 4, 100, 0));
        good("promise 6, dip: one more when one was taken out", w -> {
            fiveDippers(w);
            w.takeOut(2);
        }, 4, w -> w.dip(5, 5, 4, 100, 0));
        good("promise 6, dip: one more when the fifth was undone", w -> {
            fiveDippers(w);
            w.undo();
        }, 4, w -> w.dip(5, 5, 4, 100, 0));
    }

    // ---- 7

    private static void takeOut() {
        refused("promise 7, takeOut: there is none", Boundary::fresh, NO_SUCH, w -> w.takeOut(0));
        for (int dipper : new int[] {-1, 5, Integer.MIN_VALUE, Integer.MAX_VALUE}) {
            refused("promise 7, takeOut: of five no dipper " + dipper, Boundary::fiveDippers, NO_SUCH,
                w -> w.takeOut(dipper));
        }
        refused("promise 7, takeOut: just behind the last of three", Boundary::rich, NO_SUCH, w -> w.takeOut(3));
        good("promise 7, takeOut: the first of five", Boundary::fiveDippers, 4, w -> w.takeOut(0));
        good("promise 7, takeOut: the last of five", Boundary::fiveDippers, 4, w -> w.takeOut(4));
        good("promise 7, takeOut: the only one", w -> w.dip(5, 3, 4, 100, 0), 0, w -> w.takeOut(0));
        recorded("promise 7, takeOut: is a change", Boundary::rich, w -> w.takeOut(1));
        test("promise 7, takeOut: until there is none", () -> {
            DippedWaves w = tank(Boundary::fiveDippers);
            for (int left = 4; left >= 0; left--) {
                Due.due("left", left, w.takeOut(0));
            }
            Due.due("no more", NO_SUCH, w.takeOut(0));
            w.pass(1);
            Due.due("none beats", 0, w.count(4));
        });
        test("promise 7, takeOut: one that moved up beats in its own cell", () -> {
            DippedWaves w = tank(Boundary::fiveDippers);
            w.takeOut(0);
            w.pass(1);
            Due.due("the first one's cell", 0, height(w, 0, 0));
            Due.due("the second one's cell", -101, height(w, 2, 1));
            Due.due("the fifth one's cell", -104, height(w, 8, 4));
            Due.due("the number of the fifth", 3, w.cell(8, 4, 6));
        });
    }

    // ---- 8

    private static void drop() {
        corners("promise 8, drop", Boundary::fresh, 10001, (w, x, y) -> w.drop(x, y, 1));
        noCells("promise 8, drop", Boundary::rich, (w, x, y) -> w.drop(x, y, 5));
        noCells("promise 8, drop, NO_SUCH ahead of BAD_VALUE", Boundary::rich, (w, x, y) -> w.drop(x, y, 1000));
        good("promise 8, drop: the most, 999", Boundary::fresh, 10999, w -> w.drop(5, 3, 999));
        good("promise 8, drop: the least, -999", Boundary::fresh, 9001, w -> w.drop(5, 3, -999));
        good("promise 8, drop: 0", Boundary::fresh, 10000, w -> w.drop(5, 3, 0));
        for (int by : new int[] {-1000, 1000, Integer.MIN_VALUE, Integer.MAX_VALUE}) {
            refused("promise 8, drop: out of range, " + by, Boundary::rich, BAD_VALUE, w -> w.drop(5, 5, by));
            refused("promise 8, drop: BAD_VALUE ahead of NOT_POSSIBLE, " + by, Boundary::rich, BAD_VALUE,
                w -> w.drop(3, 1, by));
        }
        for (int by : new int[] {-999, 0, 999}) {
            refused("promise 8, drop: not on a wall, " + by, Boundary::rich, NOT_POSSIBLE, w -> w.drop(3, 1, by));
        }
        dropsTo("9998 and 1 are 9999", 9998, 1, 9999);
        dropsTo("9999 and 1 are 9999", 9999, 1, 9999);
        dropsTo("9999 and 999 are 9999", 9999, 999, 9999);
        dropsTo("9001 and 999 are 9999", 9001, 999, 9999);
        dropsTo("9000 and 999 are 9999", 9000, 999, 9999);
        dropsTo("8999 and 999 are 9998", 8999, 999, 9998);
        dropsTo("-9998 and -1 are -9999", -9998, -1, -9999);
        dropsTo("-9999 and -1 are -9999", -9999, -1, -9999);
        dropsTo("-9001 and -999 are -9999", -9001, -999, -9999);
        dropsTo("-8999 and -999 are -9998", -8999, -999, -9998);
        dropsTo("9999 and -1 are 9998", 9999, -1, 9998);
        dropsTo("-9999 and 1 are -9998", -9999, 1, -9998);
        recorded("promise 8, drop: is a change", Boundary::rich, w -> w.drop(5, 5, 9));
        recorded("promise 8, drop: of 0 is a change, too", Boundary::rich, w -> w.drop(5, 5, 0));
        test("promise 8, drop: the height ahead and the other cells are as they were", () -> {
            DippedWaves w = pooled(40, 70);
            w.drop(5, 3, 9);
            Due.due("ahead", 10040, w.cell(5, 3, 2));
            Due.due("all others", 79, w.count(4));
        });
        good("promise 8, drop: in a dipper's cell is good", Boundary::fiveDippers, 10009, w -> w.drop(0, 0, 9));
    }

    private static void dropsTo(String name, int height, int by, int want) {
        test("promise 8, drop: " + name, () -> {
            DippedWaves w = new DippedWaves();
            raise(w, 5, 3, height);
            Due.due("the call", want + 10000, w.drop(5, 3, by));
            Due.due("the height", want, height(w, 5, 3));
        });
    }

    // ---- 9

    private static void probe() {
        corners("promise 9, probe", Boundary::fresh, 0, (w, x, y) -> w.probe(x, y));
        noCells("promise 9, probe", Boundary::rich, (w, x, y) -> w.probe(x, y));
        noCells("promise 9, probe, NO_SUCH ahead of TOO_MANY", Boundary::threeProbes, (w, x, y) -> w.probe(x, y));
        good("promise 9, probe: the third is good", Boundary::rich, 2, w -> w.probe(9, 5));
        refused("promise 9, probe: the fourth is one too many", Boundary::threeProbes, TOO_MANY, w -> w.probe(9, 5));
        refused("promise 9, probe: the fourth, in a cell with one", Boundary::threeProbes, TOO_MANY,
            w -> w.probe(0, 0));
        good("promise 9, probe: on a wall", Boundary::rich, 2, w -> w.probe(3, 1));
        good("promise 9, probe: in a cell with a probe", Boundary::rich, 2, w -> w.probe(2, 2));
        good("promise 9, probe: in a cell with a dipper", Boundary::rich, 2, w -> w.probe(1, 1));
        good("promise 9, probe: the third was undone, and is good again", w -> {
            threeProbes(w);
            w.undo();
        }, 2, w -> w.probe(9, 5));
        good("promise 9, probe: a third that was put where one was undone keeps nothing", w -> {
            threeProbes(w);
            w.pass(24);
            w.undo();
            w.undo();
            w.probe(9, 5);
        }, 0, w -> w.ofProbe(2, 2));
        recorded("promise 9, probe: is a change", Boundary::rich, w -> w.probe(9, 5));
    }

    // ---- 10

    private static void pass() {
        good("promise 10, pass: the least, 1", Boundary::rich, 23, w -> {
            w.pass(1);
            return w.count(0);
        });
        good("promise 10, pass: the most, 100", Boundary::rich, 122, w -> {
            w.pass(100);
            return w.count(0);
        });
        for (int ticks : new int[] {0, 101, -1, Integer.MIN_VALUE, Integer.MAX_VALUE}) {
            refused("promise 10, pass: out of range, " + ticks, Boundary::rich, BAD_VALUE, w -> w.pass(ticks));
        }
        recorded("promise 10, pass: is a change", Boundary::rich, w -> w.pass(1));
        recorded("promise 10, pass: a hundred ticks are one change", Boundary::rich, w -> w.pass(100));
        recorded("promise 10, pass: over still water is a change, too", Boundary::fresh, w -> w.pass(1));
        good("promise 10, pass: over still water no cell is not still", Boundary::fresh, 0, w -> w.pass(100));
        good("promise 10, pass: a height at STILL is still", w -> w.dip(5, 3, 2, 5, 0), 0, w -> w.pass(1));
        good("promise 10, pass: a height just above STILL is not still", w -> w.dip(5, 3, 2, 6, 0), 1, w -> w.pass(1));
        good("promise 10, pass: a height just above STILL ahead is not still", w -> {
            w.set(RUB, 0);
            w.drop(0, 0, 6);
            w.set(DEEP, 8);
        }, 1, w -> w.pass(1));
        good("promise 10, pass: all 60 cells are not still", w -> w.dip(5, 3, 6, 900, 0), 60, w -> w.pass(40));
        good("promise 10, pass: walls are not counted", w -> {
            pool(w);
            w.dip(5, 3, 6, 900, 0);
        }, 1, w -> w.pass(40));
    }

    /** No object comes so far within 512 calls: the first of these shows what the class does beyond the promise. */
    private static void lastTick() {
        test("promise 10, pass: up to the tick 100000, and not above it", () -> {
            DippedWaves w = new DippedWaves();
            for (int i = 0; i < 999; i++) {
                w.pass(100);
            }
            Due.due("up to 99901", 0, w.pass(1));
            Due.due("one too many", TOO_MANY, w.pass(100));
            Due.due("nothing has passed", 99901, w.count(0));
            Due.due("BAD_VALUE ahead of TOO_MANY", BAD_VALUE, w.pass(101));
            Due.due("up to the last tick", 0, w.pass(99));
            Due.due("the last tick", 100000, w.count(0));
            Due.due("no more", TOO_MANY, w.pass(1));
            Due.due("a look beyond it", 10000, w.ifPassed(0, 0, 60));
            Due.due("the history is as it was", 6, w.count(14));
            w.undo();
            Due.due("the tick before the last change", 99901, w.count(0));
        });
        test("promise 10, pass: each of the ticks that 512 calls can reach is good", () -> {
            DippedWaves w = new DippedWaves();
            for (int i = 0; i < 511; i++) {
                Due.due("pass(100)", 0, w.pass(100));
            }
            Due.due("the present tick", 51100, w.count(0));
        });
    }
}
