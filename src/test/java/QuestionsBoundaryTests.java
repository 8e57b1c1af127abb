import java.util.Arrays;

/** The boundary cases of the promises 11 to 20: what there is, and what if. */
public final class QuestionsBoundaryTests extends Boundary {
    private QuestionsBoundaryTests() {
    }

    public static void main(String[] args) {
        cell();
        cellThatIsAWall();
        dipper();
        ofProbe();
        beats();
        beatsCompared();
        seen();
        count();
        loudest();
        crests();
        ifPassed();
        comes();
        hush();
        hushFinds();
        Due.end("QuestionsBoundaryTests");
    }

    // ---- 11

    private static void cell() {
        corners("promise 11, cell", Boundary::fresh, 10000, (w, x, y) -> w.cell(x, y, 1));
        noCells("promise 11, cell", Boundary::rich, (w, x, y) -> w.cell(x, y, 0));
        noCells("promise 11, cell, NO_SUCH ahead of BAD_VALUE", Boundary::rich, (w, x, y) -> w.cell(x, y, 7));
        good("promise 11, cell: the first what, 0", Boundary::rich, 3, w -> w.cell(7, 2, 0));
        good("promise 11, cell: the last what, 6", Boundary::rich, 2, w -> w.cell(5, 3, 6));
        for (int what : new int[] {-1, 7, Integer.MIN_VALUE, Integer.MAX_VALUE}) {
            refused("promise 11, cell: no what " + what, Boundary::rich, BAD_VALUE, w -> w.cell(1, 1, what));
            refused("promise 11, cell: no what " + what + " of a wall", Boundary::rich, BAD_VALUE,
                w -> w.cell(3, 1, what));
        }
        for (int what = 0; what <= 6; what++) {
            int asked = what;
            unchanging("promise 11, cell: " + what + " changes nothing", Boundary::rich, w -> w.cell(1, 1, asked));
        }
        good("promise 11, cell: no first tick", Boundary::fresh, NONE, w -> w.cell(5, 3, 5));
        good("promise 11, cell: the first tick 0 is one", w -> {
            w.dip(5, 3, 4, 900, 0);
            w.pass(1);
        }, 0, w -> w.cell(5, 3, 5));
        good("promise 11, cell: no dipper", Boundary::fiveDippers, NONE, w -> w.cell(5, 5, 6));
        good("promise 11, cell: the dipper 0 is one", Boundary::fiveDippers, 0, w -> w.cell(0, 0, 6));
        good("promise 11, cell: the dipper 4, the last of five", Boundary::fiveDippers, 4, w -> w.cell(8, 4, 6));
        good("promise 11, cell: of five dippers the last one", w -> {
            for (int i = 0; i < 5; i++) {
                w.dip(5, 3, 4, 900, 0);
            }
        }, 4, w -> w.cell(5, 3, 6));
        good("promise 11, cell: of several dippers the last one in it, not of all", w -> {
            w.dip(5, 3, 4, 900, 0);
            w.dip(5, 3, 4, 900, 0);
            w.dip(5, 4, 4, 900, 0);
        }, 1, w -> w.cell(5, 3, 6));
        good("promise 11, cell: no dipper when the last one was taken out", w -> {
            w.dip(5, 3, 4, 900, 0);
            w.takeOut(0);
        }, NONE, w -> w.cell(5, 3, 6));
    }

    private static void cellThatIsAWall() {
        Steps made = w -> {
            w.floor(5, 3, 2);
            w.drop(4, 3, 900);
            w.drop(5, 4, -900);
            w.drop(5, 2, 300);
        };
        int[] want = {2, 10000, 10000, 100000, 1, NONE, NONE};
        for (int i = 0; i < want.length; i++) {
            int what = i;
            good("promise 11, cell: of a wall among waves " + what, made, want[i], w -> w.cell(5, 3, what));
        }
    }

    // ---- 12

    private static void dipper() {
        refused("promise 12, dipper: there is none", Boundary::fresh, NO_SUCH, w -> w.dipper(0, 0));
        for (int dipper : new int[] {-1, 3, 5, Integer.MIN_VALUE, Integer.MAX_VALUE}) {
            refused("promise 12, dipper: of three no dipper " + dipper, Boundary::rich, NO_SUCH,
                w -> w.dipper(dipper, 0));
            refused("promise 12, dipper: NO_SUCH ahead of BAD_VALUE, " + dipper, Boundary::rich, NO_SUCH,
                w -> w.dipper(dipper, 6));
        }
        refused("promise 12, dipper: of five no sixth", Boundary::fiveDippers, NO_SUCH, w -> w.dipper(5, 0));
        for (int what : new int[] {-1, 6, Integer.MIN_VALUE, Integer.MAX_VALUE}) {
            refused("promise 12, dipper: no what " + what, Boundary::rich, BAD_VALUE, w -> w.dipper(0, what));
        }
        good("promise 12, dipper: the first what, 0, of the first one", Boundary::rich, 1, w -> w.dipper(0, 0));
        good("promise 12, dipper: the last what, 5, of the last one", Boundary::rich, 0, w -> w.dipper(2, 5));
        good("promise 12, dipper: the last one of five", Boundary::fiveDippers, 8, w -> w.dipper(4, 0));
        for (int what = 0; what <= 5; what++) {
            int asked = what;
            unchanging("promise 12, dipper: " + what + " changes nothing", Boundary::rich, w -> w.dipper(1, asked));
        }
        refused("promise 12, dipper: none where the last one was taken out", w -> {
            w.dip(5, 3, 4, 900, 0);
            w.takeOut(0);
        }, NO_SUCH, w -> w.dipper(0, 0));
        good("promise 12, dipper: the cell in the last column and the last row, x", w -> w.dip(9, 5, 2, 1, 0), 9,
            w -> w.dipper(0, 0));
        good("promise 12, dipper: the cell in the last column and the last row, y", w -> w.dip(9, 5, 2, 1, 0), 5,
            w -> w.dipper(0, 1));
    }

    // ---- 13

    private static void ofProbe() {
        refused("promise 13, ofProbe: there is none", Boundary::fresh, NO_SUCH, w -> w.ofProbe(0, 0));
        for (int probe : new int[] {-1, 2, 3, Integer.MIN_VALUE, Integer.MAX_VALUE}) {
            refused("promise 13, ofProbe: of two no probe " + probe, Boundary::rich, NO_SUCH, w -> w.ofProbe(probe, 0));
            refused("promise 13, ofProbe: NO_SUCH ahead of BAD_VALUE, " + probe, Boundary::rich, NO_SUCH,
                w -> w.ofProbe(probe, 5));
        }
        refused("promise 13, ofProbe: of three no fourth", Boundary::threeProbes, NO_SUCH, w -> w.ofProbe(3, 0));
        for (int what : new int[] {-1, 5, Integer.MIN_VALUE, Integer.MAX_VALUE}) {
            refused("promise 13, ofProbe: no what " + what, Boundary::rich, BAD_VALUE, w -> w.ofProbe(0, what));
        }
        for (int what = 0; what <= 4; what++) {
            int asked = what;
            unchanging("promise 13, ofProbe: " + what + " changes nothing", Boundary::rich, w -> w.ofProbe(1, asked));
        }
        good("promise 13, ofProbe: the first what, 0, of the first one", Boundary::rich, 2, w -> w.ofProbe(0, 0));
        good("promise 13, ofProbe: the last one of three", Boundary::threeProbes, 4, w -> w.ofProbe(2, 0));
        good("promise 13, ofProbe: the last column", w -> w.probe(9, 5), 9, w -> w.ofProbe(0, 0));
        good("promise 13, ofProbe: the last row", w -> w.probe(9, 5), 5, w -> w.ofProbe(0, 1));
        good("promise 13, ofProbe: it keeps nothing: 0", w -> w.probe(5, 3), 0, w -> w.ofProbe(0, 2));
        good("promise 13, ofProbe: it keeps nothing: no beat", w -> w.probe(5, 3), NONE, w -> w.ofProbe(0, 3));
        good("promise 13, ofProbe: it keeps nothing: no greatest height", w -> w.probe(5, 3), NONE,
            w -> w.ofProbe(0, 4));
        good("promise 13, ofProbe: it keeps nothing again behind clear: no greatest height", w -> {
            w.probe(5, 3);
            show(w, 5, 3, 44);
            w.clear();
        }, NONE, w -> w.ofProbe(0, 4));
        greatest("the only one", 10001, 1);
        greatest("the only one, below 0", 9967, -33);
        greatest("all are below 0", 9998, -2, -900);
        greatest("the latest one", 10005, 3, 4, 5);
        greatest("the oldest one", 10005, 5, 4, 3);
        greatest("with its sign", 10003, -900, 3, -5);
        greatest("the most a dipper can", 10900, -900, 900, 899);
    }

    private static void greatest(String name, int want, int... heights) {
        good("promise 13, ofProbe: the greatest height: " + name, w -> {
            w.probe(5, 3);
            show(w, 5, 3, heights);
        }, want, w -> w.ofProbe(0, 4));
    }

    private static void beats() {
        int[] periodic = repeated(24, 10, 20, 30, 40, 50);
        good("promise 13, the beat: none with 23 heights", w -> {
            w.probe(5, 3);
            show(w, 5, 3, Arrays.copyOf(periodic, 23));
        }, NONE, w -> w.ofProbe(0, 3));
        beat("one with 24 heights", 5, periodic);
        good("promise 13, the beat: the 25th height drops the oldest: what was before does not count", w -> {
            w.probe(5, 3);
            show(w, 5, 3, 900);
            show(w, 5, 3, periodic);
        }, 5, w -> w.ofProbe(0, 3));
        beat("the least lag, 2", 2, repeated(24, 100, -100));
        beat("a lag of 1 is too small: 2, of several the least one", 2, repeated(24, 7));
        beat("the lag 3", 3, repeated(24, 1, 2, 3));
        beat("of 4, 8 and 12 the least one", 4, repeated(24, 1, 2, 3, 4));
        beat("the lag 11", 11, repeated(24, 900, 1, 1, 1, 1, 1, 1, 1, 1, 1, 1));
        beat("the most lag, 12", 12, repeated(24, 900, 1, 1, 1, 1, 1, 1, 1, 1, 1, 1, 1));
        beat("a lag of 13 is too great: of all others, which are alike, the least one", 2,
            repeated(24, 900, 1, 1, 1, 1, 1, 1, 1, 1, 1, 1, 1, 1));
        good("promise 13, the beat: still water, of all lags the least one", w -> {
            w.probe(5, 3);
            w.pass(24);
        }, 2, w -> w.ofProbe(0, 3));
        good("promise 13, the beat: none when 24 heights were cleared", w -> {
            w.probe(5, 3);
            w.pass(24);
            w.clear();
        }, NONE, w -> w.ofProbe(0, 3));
    }

    /** Which heights are compared, and how. */
    private static void beatsCompared() {
        // The lag 12 differs by what is added to the oldest height alone, each other lag by 180.
        int[] twelve = repeated(24, 100, 10, 10, 10, 10, 10, 10, 10, 10, 10, 10, 10);
        twelve[23] = 10 + 179;
        beat("k goes up to 11: the lag 12 differs by 179, all others by 180", 12, twelve);
        twelve[23] = 10 + 180;
        beat("k goes up to 11: the lag 12 differs by 180, as all others: the least one", 2, twelve);
        twelve[23] = 10 + 181;
        beat("k goes up to 11: the lag 12 differs by 181, all others by 180", 2, twelve);
        int[] five = repeated(24, 10, 20, 30, 40, 50);
        Arrays.fill(five, 17, 24, 900);
        beat("k goes not beyond 11: the lag 5 holds up to 11 and 16", 5, five);
        int[] peaks = repeated(24, 1);
        peaks[0] = 900;
        peaks[5] = 900;
        peaks[14] = 300;
        beat("k goes from 0: the latest height is like the one 5 ago", 5, peaks);
        int[] ramp = new int[24];
        for (int i = 0; i < ramp.length; i++) {
            ramp[i] = 10 * i + 1;
        }
        beat("differences without their signs, falling", 2, ramp);
        for (int i = 0; i < ramp.length; i++) {
            ramp[i] = 900 - 10 * i;
        }
        beat("differences without their signs, rising", 2, ramp);
    }

    /** The beat of these heights, the latest first. */
    private static void beat(String name, int want, int[] ago) {
        int[] heights = new int[ago.length];
        for (int i = 0; i < ago.length; i++) {
            heights[ago.length - 1 - i] = ago[i];
        }
        good("promise 13, the beat: " + name, w -> {
            w.probe(5, 3);
            show(w, 5, 3, heights);
        }, want, w -> w.ofProbe(0, 3));
    }

    private static int[] repeated(int many, int... part) {
        int[] all = new int[many];
        for (int i = 0; i < many; i++) {
            all[i] = part[i % part.length];
        }
        return all;
    }

    // ---- 14

    private static void seen() {
        refused("promise 14, seen: there is no probe", Boundary::fresh, NO_SUCH, w -> w.seen(0, 0));
        for (int probe : new int[] {-1, 2, 3, Integer.MIN_VALUE, Integer.MAX_VALUE}) {
            refused("promise 14, seen: of two no probe " + probe, Boundary::rich, NO_SUCH, w -> w.seen(probe, 0));
        }
        refused("promise 14, seen: it keeps nothing", w -> w.probe(5, 3), NO_SUCH, w -> w.seen(0, 0));
        Steps three = w -> {
            w.probe(5, 3);
            show(w, 5, 3, 11, 22, 33);
        };
        good("promise 14, seen: 0, the latest of three", three, 10033, w -> w.seen(0, 0));
        good("promise 14, seen: 2, the oldest of three", three, 10011, w -> w.seen(0, 2));
        refused("promise 14, seen: 3 of three", three, NO_SUCH, w -> w.seen(0, 3));
        refused("promise 14, seen: -1", three, NO_SUCH, w -> w.seen(0, -1));
        for (int ago : FAR) {
            refused("promise 14, seen: far away, " + ago, three, NO_SUCH, w -> w.seen(0, ago));
        }
        Steps full = w -> {
            w.probe(5, 3);
            w.pass(40);
        };
        good("promise 14, seen: 23, the oldest that it can keep", full, 10000, w -> w.seen(0, 23));
        refused("promise 14, seen: 24, older than it can keep", full, NO_SUCH, w -> w.seen(0, 24));
        refused("promise 14, seen: nothing behind clear", w -> {
            full.on(w);
            w.clear();
        }, NO_SUCH, w -> w.seen(0, 0));
        unchanging("promise 14, seen: changes nothing", Boundary::rich, w -> w.seen(1, 3));
    }

    // ---- 15

    private static void count() {
        for (int what : new int[] {-1, 15, Integer.MIN_VALUE, Integer.MAX_VALUE}) {
            refused("promise 15, count: no what " + what, Boundary::rich, BAD_VALUE, w -> w.count(what));
        }
        for (int what = 0; what <= 14; what++) {
            int asked = what;
            unchanging("promise 15, count: " + what + " changes nothing", Boundary::rich, w -> w.count(asked));
        }
        good("promise 15, count: 0, the first what: the present tick", Boundary::rich, 22, w -> w.count(0));
        good("promise 15, count: 14, the last what: changes", Boundary::rich, 4, w -> w.count(14));
        Steps walls = w -> {
            type(w, (WALL_ROW + "/").repeat(5) + WALL_ROW);
            w.read();
        };
        good("promise 15, count: 1, walls alone", walls, 0, w -> w.count(1));
        good("promise 15, count: 2, walls alone: none is a still cell that is no wall", walls, 0, w -> w.count(2));
        good("promise 15, count: 5, walls alone", walls, 0, w -> w.count(5));
        good("promise 15, count: 2, no cell is still", w -> {
            w.dip(5, 3, 6, 900, 0);
            w.pass(40);
        }, 0, w -> w.count(2));
        good("promise 15, count: 3, a sum below 0", w -> w.drop(5, 3, -999), 999001, w -> w.count(3));
        good("promise 15, count: 3, heights that weigh each other out", Boundary::upAndDown, 1000000, w -> w.count(3));
        good("promise 15, count: 4, heights that weigh each other out", Boundary::upAndDown, 1998, w -> w.count(4));
        good("promise 15, count: 5, the greatest is below 0", w -> {
            w.drop(5, 3, -999);
            w.drop(5, 4, 998);
        }, 999, w -> w.count(5));
        good("promise 15, count: 5, the most there can be, below 0", w -> raise(w, 9, 5, -9999), 9999, w -> w.count(5));
        good("promise 15, count: 6, a height at STILL is none", w -> {
            w.dip(5, 3, 4, 5, 0);
            w.pass(1);
        }, 0, w -> w.count(6));
        good("promise 15, count: 6, a height just above STILL is one", w -> {
            w.dip(5, 3, 4, 6, 0);
            w.pass(1);
        }, 1, w -> w.count(6));
        good("promise 15, count: 6, a first tick that stays in a wall is one", w -> {
            w.dip(5, 3, 4, 6, 0);
            w.pass(1);
            w.takeOut(0);
            w.floor(5, 3, 2);
        }, 1, w -> w.count(6));
        good("promise 15, count: 6, all cells", w -> {
            w.dip(5, 3, 6, 900, 0);
            w.pass(40);
        }, 60, w -> w.count(6));
        good("promise 15, count: 7, five dippers", Boundary::fiveDippers, 5, w -> w.count(7));
        good("promise 15, count: 8, three probes", Boundary::threeProbes, 3, w -> w.count(8));
        good("promise 15, count: 13, the full pad", w -> type(w, MIXED + "abcdefg"), 72, w -> w.count(13));
        good("promise 15, count: 14, the full history", Boundary::fiveDippers, 6, w -> w.count(14));
    }

    // ---- 16

    private static void loudest() {
        for (int which : new int[] {-1, 2, Integer.MIN_VALUE, Integer.MAX_VALUE}) {
            refused("promise 16, loudest: neither, " + which, Boundary::rich, BAD_VALUE, w -> w.loudest(which));
            refused("promise 16, loudest: BAD_VALUE ahead of NONE, " + which, Boundary::fresh, BAD_VALUE,
                w -> w.loudest(which));
        }
        for (int which = 0; which <= 1; which++) {
            int asked = which;
            good("promise 16, loudest: none of still water, " + which, Boundary::fresh, NONE, w -> w.loudest(asked));
            good("promise 16, loudest: none where heights ahead alone are not 0, " + which, w -> {
                pool(w);
                w.drop(5, 3, 40);
                w.pass(1);
                w.drop(5, 3, -80);
            }, NONE, w -> w.loudest(asked));
            unchanging("promise 16, loudest: changes nothing, " + which, Boundary::rich, w -> w.loudest(asked));
        }
        loudestOf("the first cell", 0, 0, 0, 0, 1);
        loudestOf("the last cell", 9, 5, 9, 5, 1);
        for (int at = 0; at < 60; at++) {
            loudestOf("the only one, at " + at, at % 10, at / 10, at % 10, at / 10, 9);
        }
        loudestOf("a height of -1", 4, 4, 4, 4, -1);
        loudestOf("of two alike the one with the least y", 9, 1, 9, 1, 7, 0, 2, 7);
        loudestOf("of two alike the one with the least y, though its x is greater", 5, 0, 3, 5, 7, 5, 0, -7);
        loudestOf("of two alike in a row the one with the least x", 3, 4, 6, 4, 7, 3, 4, 7);
        loudestOf("without its sign: -8 against 7", 6, 5, 0, 0, 7, 6, 5, -8);
        loudestOf("without its sign: 8 against -7", 0, 0, 0, 0, 8, 6, 5, -7);
        loudestOf("-7 and 7 are alike", 2, 2, 2, 2, -7, 3, 2, 7);
    }

    /** With these drops, each an x, a y and by how much. */
    private static void loudestOf(String name, int x, int y, int... drops) {
        test("promise 16, loudest: " + name, () -> {
            DippedWaves w = new DippedWaves();
            for (int i = 0; i + 2 < drops.length; i += 3) {
                w.drop(drops[i], drops[i + 1], drops[i + 2]);
            }
            Due.due("its x", x, w.loudest(0));
            Due.due("its y", y, w.loudest(1));
        });
    }

    // ---- 17

    private static void crests() {
        for (int y : new int[] {-1, 6, Integer.MIN_VALUE, Integer.MAX_VALUE, 429496730}) {
            refused("promise 17, crests: no row " + y, Boundary::rich, NO_SUCH, w -> w.crests(y));
        }
        for (int row : new int[] {0, 5}) {
            good("promise 17, crests: the row " + row + " is good", w -> w.drop(4, row, 9), 1, w -> w.crests(row));
        }
        unchanging("promise 17, crests: changes nothing", Boundary::rich, w -> w.crests(2));
        crestsOf("still water has none", 0);
        crestsOf("the least height above 0, 1", 1, 0, 0, 0, 0, 1);
        crestsOf("a height of 0 between lower ones is none", 0, -5, -5, -5, -5, 0, -5, -5, -5, -5, -5);
        crestsOf("a height below 0, though greater than both, is none", 0, -5, -5, -5, -5, -1, -5, -5, -5, -5, -5);
        crestsOf("the first cell: beyond the tank it counts as 0", 1, 1);
        crestsOf("the first cell is not greater than its neighbour", 0, 1, 1);
        crestsOf("the last cell: beyond the tank it counts as 0", 1, 0, 0, 0, 0, 0, 0, 0, 0, 0, 1);
        crestsOf("the last cell is not greater than its neighbour", 0, 0, 0, 0, 0, 0, 0, 0, 0, 1, 1);
        crestsOf("the last cell and the first one are no neighbours", 2, 5, 0, 0, 0, 0, 0, 0, 0, 0, 4);
        crestsOf("as high as the left one is none", 0, 0, 0, 7, 7, 0);
        crestsOf("just above the left one", 1, 0, 0, 7, 8, 0);
        crestsOf("just above the right one", 1, 0, 0, 8, 7, 0);
        crestsOf("one crest on a long slope", 1, 1, 2, 3, 4, 5, 6, 7, 8, 9, 8);
        crestsOf("the most there can be, 5", 5, 1, 0, 1, 0, 1, 0, 1, 0, 1, 0);
        crestsOf("the most there can be, 5, to the other side", 5, -1, 1, -1, 1, -1, 1, -1, 1, -1, 1);
        good("promise 17, crests: on a wall it counts as 0", w -> {
            fill(w, 2, 0, 0, 9, 1, 9);
            w.floor(2, 2, 2);
            w.floor(4, 2, 2);
        }, 1, w -> w.crests(2));
        good("promise 17, crests: a wall is none", w -> {
            fill(w, 2, 0, 0, 9, 0, 0);
            w.floor(2, 2, 2);
        }, 0, w -> w.crests(2));
        good("promise 17, crests: a wall between lower ones is none", w -> {
            fill(w, 2, 0, 0, -9, 0, -9);
            w.floor(3, 2, 2);
        }, 0, w -> w.crests(2));
        good("promise 17, crests: the rows beside do not count", w -> {
            fill(w, 1, 0, 0, 0, 9, 0);
            fill(w, 2, 0, 0, 0, 1, 0);
            fill(w, 3, 0, 0, 0, 9, 0);
        }, 1, w -> w.crests(2));
    }

    private static void crestsOf(String name, int want, int... heights) {
        good("promise 17, crests: " + name, w -> fill(w, 3, heights), want, w -> w.crests(3));
    }

    private static void fill(DippedWaves w, int y, int... heights) {
        for (int x = 0; x < heights.length; x++) {
            w.drop(x, y, heights[x]);
        }
    }

    // ---- 18

    private static void ifPassed() {
        corners("promise 18, ifPassed", Boundary::fresh, 10000, (w, x, y) -> w.ifPassed(x, y, 1));
        noCells("promise 18, ifPassed", Boundary::rich, (w, x, y) -> w.ifPassed(x, y, 1));
        noCells("promise 18, ifPassed, NO_SUCH ahead of BAD_VALUE", Boundary::rich, (w, x, y) -> w.ifPassed(x, y, 0));
        for (int ticks : new int[] {0, 61, -1, Integer.MIN_VALUE, Integer.MAX_VALUE}) {
            refused("promise 18, ifPassed: out of range, " + ticks, Boundary::rich, BAD_VALUE,
                w -> w.ifPassed(5, 5, ticks));
        }
        for (int ticks : new int[] {1, 2, 59, 60}) {
            test("promise 18, ifPassed: " + ticks + " ticks are what pass makes of them", () -> {
                DippedWaves w = tank(Boundary::rich);
                int[] told = new int[60];
                for (int at = 0; at < 60; at++) {
                    told[at] = w.ifPassed(at % 10, at / 10, ticks);
                }
                w.pass(ticks);
                for (int at = 0; at < 60; at++) {
                    Due.due("cell " + at, told[at], w.cell(at % 10, at / 10, 1));
                }
            });
        }
        for (int ticks : new int[] {1, 60}) {
            unchanging("promise 18, ifPassed: " + ticks + " changes nothing", Boundary::rich,
                w -> w.ifPassed(5, 3, ticks));
            good("promise 18, ifPassed: a wall, " + ticks, Boundary::rich, 10000, w -> w.ifPassed(3, 1, ticks));
        }
        good("promise 18, ifPassed: a dipper in the tick of its last half", w -> w.dip(5, 3, 40, 900, 0), 9100,
            w -> w.ifPassed(5, 3, 20));
        good("promise 18, ifPassed: a dipper in the tick that is up", w -> w.dip(5, 3, 40, 900, 0), 10900,
            w -> w.ifPassed(5, 3, 21));
    }

    // ---- 19

    private static void comes() {
        corners("promise 19, comes", Boundary::fresh, NONE, (w, x, y) -> w.comes(x, y));
        noCells("promise 19, comes", Boundary::rich, (w, x, y) -> w.comes(x, y));
        noCells("promise 19, comes, of still water", Boundary::fresh, (w, x, y) -> w.comes(x, y));
        refused("promise 19, comes: a height now just above STILL", w -> w.drop(5, 3, 6), NOT_POSSIBLE,
            w -> w.comes(5, 3));
        refused("promise 19, comes: a height now just above STILL, below 0", w -> w.drop(5, 3, -6), NOT_POSSIBLE,
            w -> w.comes(5, 3));
        refused("promise 19, comes: a height ahead just above STILL", w -> {
            pool(w);
            w.drop(5, 3, 6);
            w.pass(1);
            w.drop(5, 3, -12);
        }, NOT_POSSIBLE, w -> w.comes(5, 3));
        grows("a tick", 1, 479, 490);
        grows("two ticks", 2, 480, 487);
        grows("79 ticks", 79, 21, 27);
        grows("80 ticks, the last that counts", 80, 15, 21);
        grows("80 ticks at STILL: it stays still", NONE, 14, 20);
        grows("81 ticks are too many", NONE, 9, 15);
        grows("80 ticks, to below 0", 80, -15, -21);
        grows("81 ticks are too many, to below 0", NONE, -9, -15);
        grows("heights at STILL that stay", NONE, 500, 500);
        good("promise 19, comes: a dipper at STILL does not count", w -> w.dip(5, 3, 4, 5, 0), NONE,
            w -> w.comes(5, 3));
        good("promise 19, comes: a dipper just above STILL counts at once", w -> w.dip(5, 3, 4, 6, 0), 1,
            w -> w.comes(5, 3));
        beatsFrom("the tick 0: the dipper is down", 0, 3);
        beatsFrom("the tick 20: the dipper is up", 20, 2);
        beatsFrom("the tick 40: the dipper is down again", 40, 3);
        good("promise 19, comes: a wall stays still", w -> {
            w.floor(5, 3, 2);
            w.dip(5, 2, 4, 900, 0);
        }, NONE, w -> w.comes(5, 3));
        unchanging("promise 19, comes: a wave that comes changes nothing", w -> w.dip(5, 3, 4, 900, 0),
            w -> w.comes(0, 0));
        unchanging("promise 19, comes: 80 ticks change nothing", Boundary::fiveDippers, w -> w.comes(3, 1));
    }

    /** Behind two ticks the drop's cell has a height of 575 beside a dipper that is up, of -325 beside one that is down. */
    private static void beatsFrom(String name, int tick, int want) {
        test("promise 19, comes: from the present tick on: " + name, () -> {
            DippedWaves w = new DippedWaves();
            if (tick > 0) {
                w.pass(tick);
            }
            channel(w);
            w.set(STILL, 450);
            w.dip(5, 3, 40, 900, 0);
            w.drop(6, 3, 100);
            Due.due("the call", want, w.comes(6, 3));
        });
    }

    /** Two cells, 5, 3 and 6, 3, with walls around them, where no height is lost. */
    private static void channel(DippedWaves w) {
        w.set(RUB, 0);
        int[][] walls = {{4, 3}, {5, 2}, {5, 4}, {7, 3}, {6, 2}, {6, 4}};
        for (int[] wall : walls) {
            w.floor(wall[0], wall[1], 2);
        }
    }

    /** A pool in which the height grows by the same in each tick, with STILL 500. */
    private static void grows(String name, int want, int ahead, int now) {
        test("promise 19, comes: " + name, () -> {
            DippedWaves w = pooled(ahead, now);
            w.set(STILL, 500);
            Due.due("the call", want, w.comes(5, 3));
        });
    }

    // ---- 20

    private static void hush() {
        corners("promise 20, hush", w -> w.dip(4, 3, 6, 300, 1), 0, (w, x, y) -> w.hush(0, x, y, 1, 0));
        noCells("promise 20, hush", Boundary::rich, (w, x, y) -> w.hush(0, x, y, 1, 0));
        noCells("promise 20, hush, NO_SUCH ahead of BAD_VALUE", Boundary::rich, (w, x, y) -> w.hush(0, x, y, 0, 2));
        refused("promise 20, hush: there is no dipper", Boundary::fresh, NO_SUCH, w -> w.hush(0, 5, 3, 1, 0));
        for (int dipper : new int[] {-1, 3, 5, Integer.MIN_VALUE, Integer.MAX_VALUE}) {
            refused("promise 20, hush: of three no dipper " + dipper, Boundary::rich, NO_SUCH,
                w -> w.hush(dipper, 5, 3, 1, 0));
            refused("promise 20, hush: no dipper " + dipper + ", NO_SUCH ahead of BAD_VALUE", Boundary::rich, NO_SUCH,
                w -> w.hush(dipper, 5, 3, 31, 2));
        }
        for (int ticks : new int[] {0, 31, -1, Integer.MIN_VALUE, Integer.MAX_VALUE}) {
            refused("promise 20, hush: ticks out of range, " + ticks, Boundary::rich, BAD_VALUE,
                w -> w.hush(0, 5, 3, ticks, 0));
        }
        for (int what : new int[] {-1, 2, Integer.MIN_VALUE, Integer.MAX_VALUE}) {
            refused("promise 20, hush: no what " + what, Boundary::rich, BAD_VALUE, w -> w.hush(0, 5, 3, 1, what));
        }
        good("promise 20, hush: the last of three dippers", Boundary::rich, 120, w -> w.hush(2, 5, 3, 1, 1));
        good("promise 20, hush: the last of five dippers", Boundary::fiveDippers, 104, w -> w.hush(4, 8, 4, 30, 1));
        for (int what = 0; what <= 1; what++) {
            int asked = what;
            unchanging("promise 20, hush: 1 tick changes nothing, " + what, Boundary::rich,
                w -> w.hush(0, 5, 3, 1, asked));
            unchanging("promise 20, hush: 30 ticks change nothing, " + what, Boundary::rich,
                w -> w.hush(2, 5, 2, 30, asked));
        }
    }

    private static void hushFinds() {
        // Behind 3 ticks: 3/4 of the first beat, 1/2 of the second one, and 3/8 of the drop.
        hushed("the last shift of 40, 39: up, then down", -40, 40, 3, 39, 210);
        hushed("the last shift of down, then up: 19", 40, 40, 3, 19, 210);
        hushed("of two shifts alike, 19 and 39, the least one", 0, 40, 3, 19, 225);
        hushed("the last shift of the least period, 2", -40, 2, 3, 1, 210);
        hushed("the first shift of the least period, 2", 40, 2, 3, 0, 210);
        hushed("of the two shifts of the period 2, alike, the least one", 0, 2, 3, 0, 225);
        hushed("a tick: no shift comes so far: the least one", -40, 40, 1, 0, 60);
        hushed("two ticks: down is the least loud", 40, 40, 2, 0, 400);
        hushed("two ticks: up is the least loud: the first shift that is up", -40, 40, 2, 20, 400);
        good("promise 20, hush: a wall: of all shifts the least one", Boundary::rich, 0, w -> w.hush(0, 3, 1, 30, 0));
        good("promise 20, hush: a wall: a height of 0", Boundary::rich, 0, w -> w.hush(0, 3, 1, 30, 1));
        good("promise 20, hush: at the dipper, of all shifts, which are alike, the least one", Boundary::rich, 0,
            w -> w.hush(1, 8, 4, 30, 0));
        good("promise 20, hush: a dipper that another one hides, of all shifts the least one", w -> {
            w.dip(5, 3, 6, 100, 5);
            w.dip(5, 3, 6, 70, 0);
        }, 0, w -> w.hush(0, 5, 3, 4, 0));
        good("promise 20, hush: a dipper that another one hides: the other one's height", w -> {
            w.dip(5, 3, 6, 100, 5);
            w.dip(5, 3, 6, 70, 0);
        }, 70, w -> w.hush(0, 5, 3, 4, 1));
        test("promise 20, hush: a dipper that another one hides: beside it all shifts are alike, too", () -> {
            DippedWaves w = new DippedWaves();
            w.dip(5, 3, 6, 100, 5);
            w.dip(5, 3, 6, 70, 0);
            int height = Math.abs(w.ifPassed(6, 3, 4) - 10000);
            Due.due("the shift", 0, w.hush(0, 6, 3, 4, 0));
            Due.due("the height", height, w.hush(0, 6, 3, 4, 1));
            Due.holds("the other one would be less loud with another shift", w.hush(1, 6, 3, 4, 1) < height);
        });
        test("promise 20, hush: 30 ticks are good, and as 30 ticks pass", () -> {
            DippedWaves w = tank(Boundary::rich);
            int shift = w.hush(0, 4, 2, 30, 0);
            int least = w.hush(0, 4, 2, 30, 1);
            for (int i = 0; i < 6; i++) {
                int height = Math.abs(shifted(i).ifPassed(4, 2, 30) - 10000);
                Due.holds("not louder than with the shift " + i, i < shift ? least < height : least <= height);
                Due.holds("as loud as with its shift", i != shift || least == height);
            }
        });
    }

    /** The rich tank, its first dipper with another shift; its place is the last one, and no other is in its cell. */
    private static DippedWaves shifted(int shift) {
        DippedWaves w = tank(Boundary::rich);
        w.takeOut(0);
        w.dip(1, 1, 6, 400, shift);
        return w;
    }

    /** A channel of two cells, a dipper in the one, a drop in the other: how loud is that one behind some ticks? */
    private static void hushed(String name, int drop, int period, int ticks, int shift, int height) {
        test("promise 20, hush: " + name, () -> {
            DippedWaves w = tank(QuestionsBoundaryTests::channel);
            w.dip(5, 3, period, 900, period / 3);
            w.drop(6, 3, drop);
            Due.due("the shift", shift, w.hush(0, 6, 3, ticks, 0));
            Due.due("the height", height, w.hush(0, 6, 3, ticks, 1));
            Due.due("its shift is as it was", period / 3, w.dipper(0, 4));
        });
    }
}
