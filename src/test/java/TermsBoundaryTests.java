/** The boundary cases that the document names in its Terms. */
public final class TermsBoundaryTests extends Boundary {
    private TermsBoundaryTests() {
    }

    public static void main(String[] args) {
        conventions();
        settingsAtWork();
        heights();
        walls();
        dippersBeat();
        dippersInOrder();
        slopes();
        divisions();
        rubbing();
        beaches();
        bounds();
        dippersInATick();
        allAtOnce();
        theTickPasses();
        stillness();
        firstTicks();
        firstTicksForgotten();
        probesKeep();
        greatest();
        Due.end("TermsBoundaryTests");
    }

    // ---- conventions

    private static void conventions() {
        good("Terms, NONE: not answered where NO_SUCH applies: cell's first tick", Boundary::fresh, NO_SUCH,
            w -> w.cell(10, 0, 5));
        good("Terms, NONE: not answered where NO_SUCH applies: a probe's beat", Boundary::fresh, NO_SUCH,
            w -> w.ofProbe(0, 3));
        good("Terms, NONE: not answered where BAD_VALUE applies: loudest of still water", Boundary::fresh, BAD_VALUE,
            w -> w.loudest(2));
        good("Terms, NONE: not answered where NO_SUCH applies: comes to no cell", Boundary::fresh, NO_SUCH,
            w -> w.comes(0, 6));
        test("Terms, NONE: it is no error, and differs from each", () -> {
            int[] errors = {
                DippedWaves.NO_SUCH, DippedWaves.BAD_VALUE, DippedWaves.BAD_TEXT, DippedWaves.TOO_MANY,
                DippedWaves.NOT_POSSIBLE};
            for (int i = 0; i < errors.length; i++) {
                Due.due("error " + i, -1 - i, errors[i]);
            }
            Due.due("NONE", -6, DippedWaves.NONE);
        });
        good("Terms, heights come with 10000 more: 0", Boundary::fresh, 10000, w -> w.cell(0, 0, 1));
        good("Terms, heights come with 10000 more: the greatest", w -> raise(w, 0, 0, 9999), 19999,
            w -> w.cell(0, 0, 1));
        good("Terms, heights come with 10000 more: the least", w -> raise(w, 0, 0, -9999), 1, w -> w.cell(0, 0, 1));
    }

    // ---- settings

    private static void settingsAtWork() {
        tickGives("Terms, settings: with the least RUB, 0, nothing is lost", steady(9999, 0, 0), 9999);
        tickGives("Terms, settings: with the most RUB, 500, half is lost", steady(1000, 0, 500), 500);
        passesOn("the least DEEP, 1", DEEP, 1, 0, 10);
        passesOn("the most DEEP, 8", DEEP, 8, 0, 80);
        passesOn("the least SHALLOW, 1", SHALLOW, 1, 1, 10);
        passesOn("the most SHALLOW, 8", SHALLOW, 8, 1, 80);
        stillWith("Terms, settings: the least STILL, 0, lets 0 be still", 0, 0, 0, 1);
        stillWith("Terms, settings: the least STILL, 0, and a height of 1", 0, 0, 1, 0);
        stillWith("Terms, settings: the most STILL, 500, lets 500 be still", 500, 500, 500, 1);
        stillWith("Terms, settings: the most STILL, 500, and a height of 501", 500, 0, 501, 0);
    }

    /** A height of 160 gives its neighbour so much in a tick. */
    private static void passesOn(String name, int setting, int value, int floor, int want) {
        test("Terms, settings: " + name, () -> {
            DippedWaves w = new DippedWaves();
            w.set(RUB, 0);
            w.set(setting, value);
            w.floor(6, 3, floor);
            w.drop(5, 3, 160);
            w.pass(1);
            Due.due("the neighbour's height", want, height(w, 6, 3));
        });
    }

    private static void tickGives(String name, DippedWaves w, int want) {
        test(name, () -> {
            Due.due("told by ifPassed", want + 10000, w.ifPassed(5, 3, 1));
            w.pass(1);
            Due.due("the height behind the tick", want, poolHeight(w));
        });
    }

    // ---- floor and heights

    private static void heights() {
        test("Terms, floor: each cell is deep at first", () -> {
            DippedWaves w = new DippedWaves();
            for (int at = 0; at < 60; at++) {
                Due.due("floor " + at, 0, w.cell(at % 10, at / 10, 0));
            }
        });
        test("Terms, heights: now and ahead are 0 at first", () -> {
            DippedWaves w = new DippedWaves();
            for (int at = 0; at < 60; at++) {
                Due.due("now " + at, 10000, w.cell(at % 10, at / 10, 1));
                Due.due("ahead " + at, 10000, w.cell(at % 10, at / 10, 2));
            }
        });
        test("Terms, heights: the height ahead goes to 9999, too", () -> {
            DippedWaves w = pooled(0, 9999);
            w.pass(1);
            Due.due("ahead", 19999, w.cell(5, 3, 2));
        });
        test("Terms, heights: the height ahead goes to -9999, too", () -> {
            DippedWaves w = pooled(0, -9999);
            w.pass(1);
            Due.due("ahead", 1, w.cell(5, 3, 2));
        });
    }

    private static void walls() {
        test("Terms, walls: a cell that becomes one loses its height now", () -> {
            DippedWaves w = pooled(40, 70);
            w.floor(5, 3, 2);
            Due.due("now", 10000, w.cell(5, 3, 1));
        });
        test("Terms, walls: a cell that becomes one loses its height ahead", () -> {
            DippedWaves w = pooled(40, 70);
            w.floor(5, 3, 2);
            Due.due("ahead", 10000, w.cell(5, 3, 2));
        });
        test("Terms, walls: one that was a wall has both heights as 0", () -> {
            DippedWaves w = pooled(40, 70);
            w.floor(5, 3, 2);
            w.floor(5, 3, 0);
            Due.due("now", 10000, w.cell(5, 3, 1));
            Due.due("ahead", 10000, w.cell(5, 3, 2));
            Due.due("a tick later", 10000, w.ifPassed(5, 3, 1));
        });
        test("Terms, walls: a first tick stays when its cell becomes one", () -> {
            DippedWaves w = pooled(40, 70);
            w.floor(5, 3, 2);
            Due.due("first tick", 0, w.cell(5, 3, 5));
        });
        test("Terms, walls: a first tick stays when a wall is laid on the wall", () -> {
            DippedWaves w = pooled(40, 70);
            w.floor(5, 3, 2);
            w.floor(5, 3, 2);
            Due.due("first tick", 0, w.cell(5, 3, 5));
        });
        test("Terms, walls: a first tick stays when its cell was one for some ticks", () -> {
            DippedWaves w = pooled(40, 70);
            w.floor(5, 3, 2);
            w.pass(4);
            w.floor(5, 3, 1);
            w.drop(5, 3, 90);
            w.pass(1);
            Due.due("first tick", 0, w.cell(5, 3, 5));
        });
        test("Terms, walls: a wall beside waves has the height 0, and no first tick", () -> {
            DippedWaves w = new DippedWaves();
            w.set(STILL, 0);
            w.floor(5, 3, 2);
            w.dip(5, 2, 4, 900, 0);
            w.pass(30);
            Due.due("now", 10000, w.cell(5, 3, 1));
            Due.due("ahead", 10000, w.cell(5, 3, 2));
            Due.due("first tick", NONE, w.cell(5, 3, 5));
        });
    }

    // ---- dippers

    private static void dippersBeat() {
        beats("the least period, 2: the first tick is down", 2, 0, 0, 0);
        beats("the least period, 2: the second tick is up", 2, 0, 1, 1);
        beats("the least period, 2: it wraps round", 2, 0, 2, 0);
        beats("the least period, 2, with its last shift, 1", 2, 1, 0, 1);
        beats("the period 3: half of it is rounded down to 1: down", 3, 0, 0, 0);
        beats("the period 3: half of it is rounded down to 1: up", 3, 0, 1, 1);
        beats("the period 3: the last tick is up", 3, 0, 2, 1);
        beats("the period 3: it wraps round", 3, 0, 3, 0);
        beats("the period 39: the last tick that is down", 39, 0, 18, 0);
        beats("the period 39: the first tick that is up", 39, 0, 19, 1);
        beats("the most period, 40: the last tick that is down", 40, 0, 19, 0);
        beats("the most period, 40: the first tick that is up", 40, 0, 20, 1);
        beats("the most period, 40: the last tick that is up", 40, 0, 39, 1);
        beats("the most period, 40: it wraps round", 40, 0, 40, 0);
        beats("the last shift of 40, 39: the first tick is up", 40, 39, 0, 1);
        beats("the last shift of 40, 39: it wraps round at once", 40, 39, 1, 0);
        beats("a shift of half of the period, 20: the first tick is up", 40, 20, 0, 1);
        beats("a shift just below half of the period, 19: the first tick is down", 40, 19, 0, 0);
        beats("a tick and a shift of some periods together", 7, 6, 99, 0);
    }

    private static void beats(String name, int period, int shift, int tick, int up) {
        test("Terms, dippers: " + name, () -> {
            DippedWaves w = new DippedWaves();
            w.dip(5, 3, period, 700, shift);
            if (tick > 0) {
                w.pass(tick);
            }
            Due.due("whether it is up", up, w.dipper(0, 5));
            w.pass(1);
            Due.due("the height behind the tick", up == 1 ? 700 : -700, height(w, 5, 3));
        });
    }

    private static void dippersInOrder() {
        test("Terms, dippers: five are numbered in the order in which they were put", () -> {
            DippedWaves w = tank(Boundary::fiveDippers);
            for (int i = 0; i < 5; i++) {
                Due.due("size of " + i, 100 + i, w.dipper(i, 3));
            }
        });
        movesUp("the first one is taken out: all behind it move up", 0, 101, 102, 103, 104);
        movesUp("the middle one is taken out: those behind it move up", 2, 100, 101, 103, 104);
        movesUp("the last one is taken out: none moves", 4, 100, 101, 102, 103);
    }

    private static void movesUp(String name, int out, int... sizes) {
        test("Terms, dippers: " + name, () -> {
            DippedWaves w = tank(Boundary::fiveDippers);
            w.takeOut(out);
            for (int i = 0; i < sizes.length; i++) {
                int was = sizes[i] - 100;
                int[] want = {2 * was, was, 10 + was, 100 + was, was};
                for (int what = 0; what < want.length; what++) {
                    Due.due("dipper(" + i + ", " + what + ")", want[what], w.dipper(i, what));
                }
            }
            Due.due("no more", NO_SUCH, w.dipper(sizes.length, 0));
        });
    }

    // ---- a tick

    private static void slopes() {
        slope("a corner has two sides, the other two count 0: 0, 0", 0, 0, 2);
        slope("a corner has two sides, the other two count 0: 9, 0", 9, 0, 2);
        slope("a corner has two sides, the other two count 0: 0, 5", 0, 5, 2);
        slope("a corner has two sides, the other two count 0: 9, 5", 9, 5, 2);
        slope("the first row has three sides", 4, 0, 3);
        slope("the last row has three sides", 4, 5, 3);
        slope("the first column has three sides", 0, 2, 3);
        slope("the last column has three sides", 9, 2, 3);
        slope("the inside has four sides", 4, 3, 4);
        slope("the inside beside the last column and row has four sides", 8, 4, 4);
        slope("the inside beside the first column and row has four sides", 1, 1, 4);
        int[][] sides = {{4, 3}, {6, 3}, {5, 2}, {5, 4}};
        for (int[] side : sides) {
            test("Terms, a tick: the slope counts the neighbour " + side[0] + ", " + side[1], () -> {
                DippedWaves w = new DippedWaves();
                w.drop(side[0], side[1], 70);
                Due.due("slope", 100070, w.cell(5, 3, 3));
            });
            test("Terms, a tick: the slope counts 0 for a wall at " + side[0] + ", " + side[1], () -> {
                DippedWaves w = new DippedWaves();
                w.drop(5, 3, 70);
                w.floor(side[0], side[1], 2);
                Due.due("slope", 100000 - 3 * 70, w.cell(5, 3, 3));
            });
        }
        test("Terms, a tick: the slope of each cell counts all its neighbours, and no others", () -> {
            for (int at = 0; at < 60; at++) {
                int x = at % 10;
                int y = at / 10;
                DippedWaves w = tank(v -> v.drop(x, y, 70));
                for (int other = 0; other < 60; other++) {
                    int far = Math.abs(other % 10 - x) + Math.abs(other / 10 - y);
                    if (far > 0) {
                        Due.due("slope of " + other + " beside " + at, far == 1 ? 100070 : 100000,
                            w.cell(other % 10, other / 10, 3));
                    }
                }
            }
        });
        test("Terms, a tick: the slope among four walls is 0", () ->
            Due.due("slope", 100000, pooled(0, 900).cell(5, 3, 3)));
        test("Terms, a tick: a neighbour aslant counts nothing", () -> {
            DippedWaves w = new DippedWaves();
            w.drop(4, 2, 70);
            w.drop(6, 4, 70);
            Due.due("slope", 100000, w.cell(5, 3, 3));
        });
        test("Terms, a tick: no wave goes round from one side of the tank to the other", () -> {
            DippedWaves w = new DippedWaves();
            w.drop(9, 2, 800);
            w.drop(4, 5, 800);
            w.pass(1);
            Due.due("the next row's first cell", 0, height(w, 0, 3));
            Due.due("the same row's first cell", 0, height(w, 0, 2));
            Due.due("the same column's first cell", 0, height(w, 4, 0));
        });
    }

    private static void slope(String name, int x, int y, int sides) {
        test("Terms, a tick: " + name, () -> {
            DippedWaves w = new DippedWaves();
            w.drop(x, y, 100);
            Due.due("slope", 100000 - sides * 100, w.cell(x, y, 3));
        });
    }

    private static void divisions() {
        sixteenths("15 of them are 0", 3, 5, 0);
        sixteenths("-15 of them are 0, towards 0", -3, 5, 0);
        sixteenths("16 of them are 1", 2, 8, 1);
        sixteenths("-16 of them are -1", -2, 8, -1);
        sixteenths("31 of them are 1", 31, 1, 1);
        sixteenths("-31 of them are -1, towards 0", -31, 1, -1);
        sixteenths("32 of them are 2", 32, 1, 2);
        sixteenths("-32 of them are -2", -32, 1, -2);
        test("Terms, a tick: only the slope is divided by 16, by itself", () -> {
            DippedWaves w = new DippedWaves();
            w.set(RUB, 0);
            w.set(DEEP, 1);
            w.drop(0, 0, 7);
            w.pass(1);
            Due.due("14 - 0 + (-14 / 16)", 14, height(w, 0, 0));
        });
        test("Terms, a tick: the slope of deep water beside a shallow goes by DEEP", () -> {
            DippedWaves w = unlike();
            Due.due("160 * 8 / 16", 80, height(w, 4, 3));
        });
        test("Terms, a tick: the slope of a shallow beside deep water goes by SHALLOW", () -> {
            DippedWaves w = unlike();
            Due.due("320 - 640 * 3 / 16", 200, height(w, 5, 3));
        });
        test("Terms, a tick: the slope of a beach goes by SHALLOW", () -> {
            DippedWaves w = unlike();
            Due.due("160 * 3 / 16 / 2", 15, height(w, 6, 3));
        });
    }

    private static DippedWaves unlike() {
        DippedWaves w = new DippedWaves();
        w.set(RUB, 0);
        w.floor(5, 3, 1);
        w.floor(6, 3, 3);
        w.drop(5, 3, 160);
        w.pass(1);
        return w;
    }

    /** A cell beside one of this height gets the slope times DEEP, divided by 16. */
    private static void sixteenths(String name, int slope, int deep, int want) {
        test("Terms, a tick: sixteenths: " + name, () -> {
            DippedWaves w = new DippedWaves();
            w.set(RUB, 0);
            w.set(DEEP, deep);
            w.drop(5, 3, slope);
            w.pass(1);
            Due.due("the neighbour's height", want, height(w, 6, 3));
        });
    }

    private static void rubbing() {
        tickGives("Terms, a tick: rubbing takes 99 * 10 / 1000, 0", steady(99, 0, 10), 99);
        tickGives("Terms, a tick: rubbing takes 100 * 10 / 1000, 1", steady(100, 0, 10), 99);
        tickGives("Terms, a tick: rubbing takes 199 * 10 / 1000, 1", steady(199, 0, 10), 198);
        tickGives("Terms, a tick: rubbing takes -99 * 10 / 1000, 0", steady(-99, 0, 10), -99);
        tickGives("Terms, a tick: rubbing takes -100 * 10 / 1000, -1", steady(-100, 0, 10), -99);
        tickGives("Terms, a tick: rubbing takes -199 * 10 / 1000, -1, towards 0", steady(-199, 0, 10), -198);
        tickGives("Terms, a tick: rubbing takes nothing of 1 at 500", steady(1, 0, 500), 1);
        tickGives("Terms, a tick: rubbing takes 1 of 2 at 500", steady(2, 0, 500), 1);
        tickGives("Terms, a tick: rubbing takes nothing of -1 at 500", steady(-1, 0, 500), -1);
        tickGives("Terms, a tick: rubbing takes 1 of 1000 at 1", steady(1000, 0, 1), 999);
        tickGives("Terms, a tick: rubbing takes nothing of 999 at 1", steady(999, 0, 1), 999);
        tickGives("Terms, a tick: rubbing on a shallow, too", steady(100, 1, 10), 99);
    }

    private static void beaches() {
        tickGives("Terms, a tick: a beach halves 1 to 0", steady(1, 3, 0), 0);
        tickGives("Terms, a tick: a beach halves -1 to 0, towards 0", steady(-1, 3, 0), 0);
        tickGives("Terms, a tick: a beach halves 2 to 1", steady(2, 3, 0), 1);
        tickGives("Terms, a tick: a beach halves 9 to 4", steady(9, 3, 0), 4);
        tickGives("Terms, a tick: a beach halves -9 to -4, towards 0", steady(-9, 3, 0), -4);
        tickGives("Terms, a tick: a beach halves behind rubbing: 5 - 5 * 400 / 1000 is 3", steady(5, 3, 400), 1);
        tickGives("Terms, a tick: a shallow halves nothing", steady(9, 1, 0), 9);
    }

    private static void bounds() {
        tickGives("Terms, a tick: 9998 stays", followed(2, 5000, 0, 0), 9998);
        tickGives("Terms, a tick: 9999 stays", followed(1, 5000, 0, 0), 9999);
        tickGives("Terms, a tick: 10000 is brought to 9999", followed(0, 5000, 0, 0), 9999);
        tickGives("Terms, a tick: the most there can be, 29997, is brought to 9999", followed(-9999, 9999, 0, 0), 9999);
        tickGives("Terms, a tick: -9998 stays", followed(-2, -5000, 0, 0), -9998);
        tickGives("Terms, a tick: -9999 stays", followed(-1, -5000, 0, 0), -9999);
        tickGives("Terms, a tick: -10000 is brought to -9999", followed(0, -5000, 0, 0), -9999);
        tickGives("Terms, a tick: the least there can be, -29997, is brought to -9999", followed(9999, -9999, 0, 0),
            -9999);
        tickGives("Terms, a tick: rubbed before it is bounded: 19996", followed(2, 9999, 0, 500), 9998);
        tickGives("Terms, a tick: rubbed before it is bounded: -19996", followed(-2, -9999, 0, 500), -9998);
        tickGives("Terms, a tick: halved before it is bounded: 19997", followed(1, 9999, 3, 0), 9998);
        tickGives("Terms, a tick: halved before it is bounded: 19998", followed(0, 9999, 3, 0), 9999);
        tickGives("Terms, a tick: halved and bounded: 20000", followed(-2, 9999, 3, 0), 9999);
        tickGives("Terms, a tick: halved and bounded: -20000", followed(2, -9999, 3, 0), -9999);
        test("Terms, a tick: the greatest slope there can be, 4 * 19998", () -> {
            DippedWaves w = wavy(9999);
            Due.due("slope", 100000 - 79992, w.cell(5, 3, 3));
            w.pass(1);
            Due.due("19998 - 0 - 79992 * 8 / 16 is bounded", -9999, height(w, 5, 3));
        });
        test("Terms, a tick: the least slope there can be, -4 * 19998", () -> {
            DippedWaves w = wavy(-9999);
            Due.due("slope", 100000 + 79992, w.cell(5, 3, 3));
            w.pass(1);
            Due.due("-19998 - 0 + 79992 * 8 / 16 is bounded", 9999, height(w, 5, 3));
        });
    }

    private static DippedWaves wavy(int height) {
        DippedWaves w = new DippedWaves();
        w.set(RUB, 0);
        raise(w, 5, 3, height);
        raise(w, 4, 3, -height);
        raise(w, 6, 3, -height);
        raise(w, 5, 2, -height);
        raise(w, 5, 4, -height);
        return w;
    }

    private static void dippersInATick() {
        tickGives("Terms, a tick: a dipper's size is neither rubbed nor halved", dipped(followed(0, 70, 3, 500), 33, 1),
            33);
        tickGives("Terms, a tick: 0 less a dipper's size, down", dipped(followed(0, 70, 3, 500), 33, 0), -33);
        tickGives("Terms, a tick: a dipper's size, not what the height was", dipped(followed(0, 9999, 0, 0), 1, 1), 1);
        tickGives("Terms, a tick: the least size, 1, down", dipped(followed(0, 9999, 0, 0), 1, 0), -1);
        tickGives("Terms, a tick: the most size, 900, up", dipped(steady(0, 0, 0), 900, 1), 900);
        tickGives("Terms, a tick: the most size, 900, down", dipped(steady(0, 0, 0), 900, 0), -900);
        tickGives("Terms, a tick: of two dippers in a cell the last one", dipped(dipped(steady(0, 0, 0), 900, 1), 4, 0),
            -4);
        test("Terms, a tick: of five dippers in a cell the last one", () -> {
            DippedWaves w = new DippedWaves();
            for (int i = 0; i < 5; i++) {
                w.dip(5, 3, 40, 900 - i, 0);
            }
            w.pass(1);
            Due.due("the height", -896, height(w, 5, 3));
        });
        test("Terms, a tick: of two in a cell the last one, though another one was put in between", () -> {
            DippedWaves w = new DippedWaves();
            w.dip(5, 3, 40, 11, 0);
            w.dip(5, 4, 40, 22, 0);
            w.dip(5, 3, 40, 33, 0);
            w.dip(5, 2, 40, 44, 0);
            w.pass(1);
            Due.due("the height", -33, height(w, 5, 3));
        });
        test("Terms, a tick: the last one is taken out, the one before it beats", () -> {
            DippedWaves w = new DippedWaves();
            w.dip(5, 3, 40, 11, 0);
            w.dip(5, 3, 40, 33, 0);
            w.takeOut(1);
            w.pass(1);
            Due.due("the height", -11, height(w, 5, 3));
        });
        test("Terms, a tick: all dippers are taken out, the water goes on by itself", () -> {
            DippedWaves w = dipped(steady(40, 0, 0), 900, 1);
            w.takeOut(0);
            w.pass(1);
            Due.due("the height", 40, poolHeight(w));
        });
    }

    /** The pool's tank with a dipper in it, up or down in the present tick. */
    private static DippedWaves dipped(DippedWaves w, int size, int up) {
        int tick = w.count(0);
        w.dip(5, 3, 40, size, (80 - tick + 20 * up) % 40);
        return w;
    }

    private static void allAtOnce() {
        int[][] near = {{4, 3}, {6, 3}, {5, 2}, {5, 4}};
        int[][] next = {{3, 3}, {7, 3}, {5, 1}, {5, 5}, {4, 2}, {6, 2}, {4, 4}, {6, 4}};
        test("Terms, a tick: all by the heights at its beginning: a drop goes one cell far, to each side", () -> {
            DippedWaves w = new DippedWaves();
            w.drop(5, 3, 900);
            w.pass(1);
            for (int[] c : near) {
                Due.due("height of " + c[0] + ", " + c[1], 446, height(w, c[0], c[1]));
            }
            for (int[] c : next) {
                Due.due("height of " + c[0] + ", " + c[1], 0, height(w, c[0], c[1]));
            }
        });
        test("Terms, a tick: all by the heights at its beginning: a dipper's first beat stays in its cell", () -> {
            DippedWaves w = new DippedWaves();
            w.dip(5, 3, 4, 900, 0);
            w.pass(1);
            for (int[] c : near) {
                Due.due("height of " + c[0] + ", " + c[1], 0, height(w, c[0], c[1]));
            }
        });
        test("Terms, a tick: a dipper's second beat meets what the first one left", () -> {
            DippedWaves w = new DippedWaves();
            w.set(RUB, 0);
            w.dip(5, 3, 2, 900, 0);
            w.pass(2);
            for (int[] c : near) {
                Due.due("height of " + c[0] + ", " + c[1], -450, height(w, c[0], c[1]));
            }
        });
    }

    private static void theTickPasses() {
        test("Terms, a tick: then the height now is the one ahead, and the new one is now", () -> {
            DippedWaves w = pooled(30, 50);
            w.pass(1);
            Due.due("ahead", 10050, w.cell(5, 3, 2));
            Due.due("now", 10070, w.cell(5, 3, 1));
        });
        good("Terms, a tick: the present tick is 0 at first", Boundary::fresh, 0, w -> w.count(0));
        good("Terms, a tick: the present tick behind one", w -> w.pass(1), 1, w -> w.count(0));
        test("Terms, a tick: one tick a hundred times is a hundred ticks", () -> {
            Steps made = w -> {
                w.dip(1, 1, 7, 600, 3);
                w.floor(4, 2, 2);
                w.floor(8, 3, 3);
                w.probe(7, 3);
            };
            DippedWaves w = tank(made);
            DippedWaves other = tank(made);
            w.pass(100);
            for (int i = 0; i < 100; i++) {
                other.pass(1);
            }
            for (int at = 0; at < 60; at++) {
                Due.due("height " + at, w.cell(at % 10, at / 10, 1), other.cell(at % 10, at / 10, 1));
                Due.due("first tick " + at, w.cell(at % 10, at / 10, 5), other.cell(at % 10, at / 10, 5));
            }
            for (int ago = 0; ago < 24; ago++) {
                Due.due("seen " + ago, w.seen(0, ago), other.seen(0, ago));
            }
        });
    }

    // ---- still cells, first ticks

    private static void stillness() {
        stillWith("Terms, still: both heights at STILL", 5, 5, 5, 1);
        stillWith("Terms, still: both heights at STILL, below 0", 5, -5, -5, 1);
        stillWith("Terms, still: the height now just above STILL", 5, 0, 6, 0);
        stillWith("Terms, still: the height now just above STILL without its sign", 5, 0, -6, 0);
        stillWith("Terms, still: the height ahead just above STILL", 5, 6, 0, 0);
        stillWith("Terms, still: the height ahead just above STILL without its sign", 5, -6, 0, 0);
        stillWith("Terms, still: the height ahead just above STILL, the one now at it", 5, 6, 5, 0);
        stillWith("Terms, still: the height now just above STILL, the one ahead at it", 5, 5, 6, 0);
        good("Terms, still: a wall is", w -> w.floor(5, 3, 2), 1, w -> w.cell(5, 3, 4));
        good("Terms, still: a wall is, with STILL 0", w -> {
            w.set(STILL, 0);
            w.floor(5, 3, 2);
        }, 1, w -> w.cell(5, 3, 4));
    }

    private static void stillWith(String name, int still, int ahead, int now, int want) {
        test(name, () -> {
            DippedWaves w = pooled(ahead, now);
            w.set(STILL, still);
            Due.due("whether it is still", want, w.cell(5, 3, 4));
            Due.due("still cells", 55 + want, w.count(2));
        });
    }

    private static void firstTicks() {
        firstOf("a height at STILL is not above it", 5, 5, 0, NONE);
        firstOf("a height at STILL, up, is not above it", 5, 5, 1, NONE);
        firstOf("a height just above STILL, down", 5, 6, 0, 0);
        firstOf("a height just above STILL, up", 5, 6, 1, 0);
        firstOf("the least STILL, 0, and a height of 1", 0, 1, 1, 0);
        firstOf("the most STILL, 500, and a height of 500", 500, 500, 1, NONE);
        firstOf("the most STILL, 500, and a height of 501", 500, 501, 1, 0);
        good("Terms, first ticks: none for a height of 0 with STILL 0", w -> {
            w.set(STILL, 0);
            w.pass(2);
        }, NONE, w -> w.cell(5, 3, 5));
        good("Terms, first ticks: none for a drop ahead of a tick", w -> w.drop(5, 3, 900), NONE, w -> w.cell(5, 3, 5));
        good("Terms, first ticks: none for a drop that is gone behind the tick", w -> {
            w.set(RUB, 0);
            w.drop(5, 3, 900);
            w.pass(1);
        }, NONE, w -> w.cell(5, 3, 5));
        good("Terms, first ticks: the tick's own number, not the next one's", w -> {
            w.pass(7);
            w.dip(5, 3, 4, 900, 0);
            w.pass(1);
        }, 7, w -> w.cell(5, 3, 5));
        good("Terms, first ticks: the first one stays", w -> {
            w.dip(5, 3, 4, 900, 0);
            w.pass(9);
        }, 0, w -> w.cell(5, 3, 5));
        good("Terms, first ticks: the one at a STILL that is no more stays", w -> {
            w.dip(5, 3, 4, 6, 0);
            w.pass(1);
            w.set(STILL, 500);
            w.pass(3);
        }, 0, w -> w.cell(5, 3, 5));
        good("Terms, first ticks: a lesser STILL finds none behind ticks that are over", w -> {
            w.dip(5, 3, 4, 5, 0);
            w.pass(3);
            w.set(STILL, 4);
        }, NONE, w -> w.cell(5, 3, 5));
        good("Terms, first ticks: a lesser STILL finds one behind the next tick", w -> {
            w.dip(5, 3, 4, 5, 0);
            w.pass(3);
            w.set(STILL, 4);
            w.pass(1);
        }, 3, w -> w.cell(5, 3, 5));
    }

    private static void firstOf(String name, int still, int size, int up, int want) {
        good("Terms, first ticks: " + name, w -> {
            w.set(STILL, still);
            w.dip(5, 3, 40, size, 20 * up);
            w.pass(1);
        }, want, w -> w.cell(5, 3, 5));
    }

    private static void firstTicksForgotten() {
        Steps waved = w -> {
            w.dip(5, 3, 4, 900, 0);
            w.pass(9);
        };
        good("Terms, first ticks: none when the floor has been read", w -> {
            waved.on(w);
            type(w, MIXED);
            w.read();
        }, NONE, w -> w.cell(5, 3, 5));
        good("Terms, first ticks: none when the water has been cleared", w -> {
            waved.on(w);
            w.clear();
        }, NONE, w -> w.cell(5, 3, 5));
        good("Terms, first ticks: counted again from 0 since the water was cleared", w -> {
            waved.on(w);
            w.clear();
            w.takeOut(0);
            w.pass(2);
            w.dip(5, 3, 4, 900, 0);
            w.pass(2);
        }, 2, w -> w.cell(5, 3, 5));
        good("Terms, first ticks: counted again from 0 since the floor was read", w -> {
            waved.on(w);
            type(w, MIXED);
            w.read();
            w.pass(1);
            w.dip(5, 3, 4, 900, 0);
            w.pass(2);
        }, 1, w -> w.cell(5, 3, 5));
    }

    // ---- probes

    private static void probesKeep() {
        kept("nothing when it was just put", 0, 0);
        kept("one behind a tick", 1, 1);
        kept("23 behind 23", 23, 23);
        kept("24 behind 24, it is full", 24, 24);
        kept("24 behind 25", 25, 24);
        kept("24 behind 100", 100, 24);
        test("Terms, probes: the latest first", () -> {
            DippedWaves w = tank(v -> v.probe(5, 3));
            show(w, 5, 3, 11, 22, -33);
            int[] want = {9967, 10022, 10011};
            for (int ago = 0; ago < want.length; ago++) {
                Due.due("seen " + ago, want[ago], w.seen(0, ago));
            }
        });
        test("Terms, probes: the 25th height drops the oldest one", () -> {
            DippedWaves w = tank(v -> v.probe(5, 3));
            show(w, 5, 3, numbered(24));
            Due.due("the oldest of 24", 10001, w.seen(0, 23));
            show(w, 5, 3, 25);
            Due.due("the oldest of 25", 10002, w.seen(0, 23));
            Due.due("the latest of 25", 10025, w.seen(0, 0));
        });
        test("Terms, probes: only ticks since it was put", () -> {
            DippedWaves w = tank(v -> v.dip(5, 3, 40, 900, 0));
            w.pass(30);
            w.probe(5, 3);
            w.pass(2);
            Due.due("kept", 2, w.ofProbe(0, 2));
            Due.due("2 ago", NO_SUCH, w.seen(0, 2));
        });
        test("Terms, probes: a drop is not kept until a tick is over", () -> {
            DippedWaves w = tank(v -> v.probe(5, 3));
            w.drop(5, 3, 900);
            Due.due("kept", 0, w.ofProbe(0, 2));
        });
        test("Terms, probes: each keeps its own cell and its own ticks", () -> {
            DippedWaves w = tank(v -> v.probe(5, 3));
            show(w, 5, 3, 11);
            w.probe(0, 0);
            w.probe(5, 3);
            show(w, 5, 3, 22, 33);
            int[] kept = {3, 2, 2};
            int[] latest = {10033, 10000, 10033};
            for (int i = 0; i < 3; i++) {
                Due.due("kept by " + i, kept[i], w.ofProbe(i, 2));
                Due.due("the latest of " + i, latest[i], w.seen(i, 0));
            }
            Due.due("the oldest of the first", 10011, w.seen(0, 2));
        });
        test("Terms, probes: on a cell that becomes a wall it keeps 0", () -> {
            DippedWaves w = tank(v -> v.probe(5, 3));
            show(w, 5, 3, 11);
            w.floor(5, 3, 2);
            w.pass(1);
            Due.due("now", 10000, w.seen(0, 0));
            Due.due("before", 10011, w.seen(0, 1));
        });
    }

    private static void kept(String name, int ticks, int want) {
        test("Terms, probes: keeps " + name, () -> {
            DippedWaves w = tank(v -> v.probe(5, 3));
            if (ticks > 0) {
                w.pass(ticks);
            }
            Due.due("kept", want, w.ofProbe(0, 2));
            Due.due("the oldest", want > 0 ? 10000 : NO_SUCH, w.seen(0, want - 1));
            Due.due("one older", NO_SUCH, w.seen(0, want));
        });
    }

    private static int[] numbered(int many) {
        int[] heights = new int[many];
        for (int i = 0; i < many; i++) {
            heights[i] = i + 1;
        }
        return heights;
    }

    private static void greatest() {
        test("Terms, probes: the greatest height counts while it is the oldest of 24", () -> {
            DippedWaves w = tank(v -> v.probe(5, 3));
            show(w, 5, 3, 900);
            w.set(RUB, 500);
            w.floor(5, 3, 2);
            w.pass(23);
            Due.due("greatest", 10900, w.ofProbe(0, 4));
            w.pass(1);
            Due.due("greatest when it is dropped", 10000, w.ofProbe(0, 4));
        });
    }
}
