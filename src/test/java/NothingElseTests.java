/** Each call changes what its promise says, and nothing else. */
public final class NothingElseTests extends Boundary {
    private static final String UNDOABLE = "count\\(14\\)|";
    private static final String WHAT_IF = "ifPassed.*|comes.*|hush.*";
    // What one cell's height moves beside that cell itself.
    private static final String LOUDNESS = "count\\([2-5]\\)|loudest.*|";
    private static final String PAD = "count\\(13\\)|fault\\(\\)";

    private NothingElseTests() {
    }

    public static void main(String[] args) {
        settings();
        floors();
        floorsKeep();
        readAndClear();
        dippers();
        drops();
        probesAndTicks();
        texts();
        undoAndRestore();
        noTraces();
        questions();
        Due.end("NothingElseTests");
    }

    // ---- 2

    private static void settings() {
        String[] names = {"RUB", "DEEP", "SHALLOW"};
        for (int i = 0; i < names.length; i++) {
            int setting = i;
            nothingElse("promise 2, set: " + names[i] + " alone", Boundary::rich, w -> w.set(setting, 1),
                UNDOABLE + "count\\(" + (9 + setting) + "\\)|" + WHAT_IF);
        }
        nothingElse("promise 2, set: STILL alone, and what is still", Boundary::rich, w -> w.set(STILL, 100),
            UNDOABLE + "count\\(12\\)|count\\(2\\)|cell\\(., ., 4\\)|comes.*");
        for (int i = 0; i < 4; i++) {
            int setting = i;
            nothingElse("promise 2, set: the same again changes nothing, " + setting, Boundary::rich,
                w -> w.set(setting, w.count(9 + setting)), UNDOABLE);
        }
    }

    // ---- 3

    private static void floors() {
        for (int i : new int[] {1, 3}) {
            nothingElse("promise 3, floor: " + i + " in deep water, its floor alone", Boundary::rich,
                w -> w.floor(5, 5, i), UNDOABLE + "cell\\(5, 5, 0\\)|" + WHAT_IF);
            nothingElse("promise 3, floor: " + i + " under a dipper, its floor alone", Boundary::rich,
                w -> w.floor(1, 1, i), UNDOABLE + "cell\\(1, 1, 0\\)|" + WHAT_IF);
            nothingElse("promise 3, floor: " + i + " under a probe, its floor alone", Boundary::rich,
                w -> w.floor(2, 2, i), UNDOABLE + "cell\\(2, 2, 0\\)|" + WHAT_IF);
        }
        nothingElse("promise 3, floor: a wall, its heights and the slopes beside it alone", Boundary::rich,
            w -> w.floor(5, 5, 2),
            UNDOABLE + LOUDNESS + "cell\\(5, 5, [0-4]\\)|" + slopesBeside(5, 5) + "count\\(1\\)|crests\\(5\\)|" + WHAT_IF);
        nothingElse("promise 3, floor: a wall under a probe: what it kept stays", Boundary::rich,
            w -> w.floor(2, 2, 2),
            UNDOABLE + LOUDNESS + "cell\\(2, 2, [0-4]\\)|" + slopesBeside(2, 2) + "count\\(1\\)|crests\\(2\\)|" + WHAT_IF);
        nothingElse("promise 3, floor: no wall any more, the slopes beside it alone", Boundary::rich,
            w -> w.floor(3, 1, 0),
            UNDOABLE + "cell\\(3, 1, [03]\\)|" + slopesBeside(3, 1) + "count\\([12]\\)|" + WHAT_IF);
        for (int floor : new int[] {0, 1, 2, 3}) {
            int[][] places = {{5, 5}, {4, 4}, {3, 1}, {7, 2}};
            int[] at = places[floor];
            nothingElse("promise 3, floor: the same again changes nothing, " + floor, Boundary::rich,
                w -> w.floor(at[0], at[1], floor), UNDOABLE);
        }
    }

    private static String slopesBeside(int x, int y) {
        return "cell\\(" + (x - 1) + ", " + y + ", 3\\)|cell\\(" + (x + 1) + ", " + y + ", 3\\)|cell\\(" + x + ", "
            + (y - 1) + ", 3\\)|cell\\(" + x + ", " + (y + 1) + ", 3\\)|";
    }

    private static void floorsKeep() {
        for (int i : new int[] {0, 1, 3}) {
            test("promise 3, floor: a dipper goes on over the floor " + i, () -> {
                DippedWaves w = tank(v -> v.dip(5, 3, 4, 300, 1));
                w.floor(5, 3, 3 - i);
                w.floor(5, 3, i);
                Due.due("dippers", 1, w.count(7));
                Due.due("the dipper there", 0, w.cell(5, 3, 6));
                w.pass(1);
                Due.due("down", 9700, w.cell(5, 3, 1));
                w.pass(1);
                Due.due("up", 10300, w.cell(5, 3, 1));
            });
            test("promise 3, floor: a probe goes on over the floor " + i, () -> {
                DippedWaves w = tank(v -> v.probe(5, 3));
                show(w, 5, 3, 11, 22);
                w.floor(5, 3, i);
                Due.due("kept", 2, w.ofProbe(0, 2));
                show(w, 5, 3, 33);
                Due.due("the latest", 10033, w.seen(0, 0));
                Due.due("the oldest", 10011, w.seen(0, 2));
            });
        }
        good("promise 3, floor: a first tick stays on a beach", w -> {
            w.dip(5, 3, 4, 300, 1);
            w.pass(1);
            w.floor(5, 3, 3);
        }, 0, w -> w.cell(5, 3, 5));
    }

    // ---- 4, 5

    private static void readAndClear() {
        Steps made = w -> {
            rich(w);
            w.wipe();
        };
        nothingElse("promise 4, read: settings stay, and the pad is empty", made, w -> {
            type(w, MIXED);
            return w.read();
        }, "(?!count\\((9|1[0-3])\\)|fault).*");
        recorded("promise 4, read: the floor that there is already is a change, too", Boundary::fresh, w -> {
            type(w, (DEEP_ROW + "/").repeat(5) + DEEP_ROW);
            return w.read();
        });
        nothingElse("promise 4, read: the floor that there is already changes nothing", Boundary::fresh, w -> {
            type(w, (DEEP_ROW + "/").repeat(5) + DEEP_ROW);
            return w.read();
        }, UNDOABLE);
        nothingElse("promise 5, clear: dippers, floor, settings, probes and the pad stay", Boundary::rich, w -> w.clear(),
            UNDOABLE + LOUDNESS + "cell\\(., ., [1-5]\\)|count\\([06]\\)|crests.*|ofProbe\\(., [2-4]\\)|seen.*|dipper\\(., 5\\)|"
                + WHAT_IF);
        nothingElse("promise 5, clear: still water at the tick 0 is as it was", w -> {
            w.dip(5, 3, 4, 900, 2);
            w.floor(2, 2, 3);
            w.floor(4, 2, 1);
            w.set(STILL, 77);
            w.set(DEEP, 7);
            w.probe(9, 1);
        }, w -> w.clear(), UNDOABLE);
    }

    // ---- 6, 7

    private static void dippers() {
        nothingElse("promise 6, dip: the new one alone", Boundary::rich, w -> w.dip(6, 3, 4, 100, 1),
            UNDOABLE + "cell\\(6, 3, 6\\)|dipper\\(3, .\\)|count\\(7\\)|" + WHAT_IF);
        nothingElse("promise 6, dip: the new one alone, in a cell with one", Boundary::rich, w -> w.dip(1, 1, 4, 100, 1),
            UNDOABLE + "cell\\(1, 1, 6\\)|dipper\\(3, .\\)|count\\(7\\)|" + WHAT_IF);
        nothingElse("promise 7, takeOut: the last one alone", Boundary::rich, w -> w.takeOut(2),
            UNDOABLE + "cell\\(5, 3, 6\\)|dipper\\(2, .\\)|count\\(7\\)|" + WHAT_IF);
        nothingElse("promise 7, takeOut: it and those behind it alone", Boundary::rich, w -> w.takeOut(1),
            UNDOABLE + "cell\\(8, 4, 6\\)|cell\\(5, 3, 6\\)|dipper\\([12], .\\)|count\\(7\\)|" + WHAT_IF);
    }

    // ---- 8

    private static void drops() {
        nothingElse("promise 8, drop: its height and the slopes beside it alone", Boundary::rich, w -> w.drop(5, 4, 99),
            UNDOABLE + LOUDNESS + "cell\\(5, 4, [134]\\)|" + slopesBeside(5, 4) + "crests\\(4\\)|" + WHAT_IF);
        nothingElse("promise 8, drop: 0 changes nothing", Boundary::rich, w -> w.drop(5, 4, 0), UNDOABLE);
        recorded("promise 8, drop: on a height that cannot become more is a change, too", w -> {
            raise(w, 5, 4, 9999);
            w.save(0);
            for (int i = 0; i < 6; i++) {
                w.undo();
            }
            w.restore(0);
        }, w -> w.drop(5, 4, 5));
        for (int i : new int[] {1, 3}) {
            good("promise 8, drop: on the floor " + i + " is good", w -> w.floor(5, 4, i), 10044, w -> w.drop(5, 4, 44));
        }
    }

    // ---- 9, 10

    private static void probesAndTicks() {
        nothingElse("promise 9, probe: the new one alone", Boundary::rich, w -> w.probe(5, 4),
            UNDOABLE + "ofProbe\\(2, .\\)|count\\(8\\)");
        nothingElse("promise 10, pass: floor, dippers, settings and the pad stay", Boundary::rich, w -> w.pass(1),
            UNDOABLE + LOUDNESS + "cell\\(., ., [1-5]\\)|count\\([06]\\)|crests.*|ofProbe\\(., [2-4]\\)|seen.*|dipper\\(., 5\\)|"
                + WHAT_IF);
        test("promise 10, pass: it answers how many of the cells that are no walls are not among the still ones", () -> {
            Steps[] tanks = {
                Boundary::fresh, Boundary::rich, Boundary::fiveDippers, Boundary::threeProbes, Boundary::pool,
                Boundary::upAndDown};
            for (Steps made : tanks) {
                DippedWaves w = tank(made);
                int restless = w.pass(100);
                Due.due("not still", w.count(1) - w.count(2), restless);
            }
        });
    }

    // ---- 21, 22, 23

    private static void texts() {
        nothingElse("promise 21, put: the pad alone", Boundary::rich, w -> w.put(packed("abc")), PAD);
        nothingElse("promise 22, wipe: the pad alone", Boundary::rich, w -> w.wipe(), PAD);
        nothingElse("promise 22, wipe: an empty pad changes nothing", Boundary::fresh, w -> w.wipe(), "");
    }

    // ---- 24 to 26

    private static void undoAndRestore() {
        nothingElse("promise 24, undo: of a drop, what the drop did alone", Boundary::rich, w -> w.undo(),
            UNDOABLE + LOUDNESS + "cell\\(0, 5, [134]\\)|cell\\(1, 5, 3\\)|cell\\(0, 4, 3\\)|crests\\(5\\)|" + WHAT_IF);
        nothingElse("promise 26, restore: the pad stays", Boundary::rich, w -> w.restore(0), "(?!count\\(13\\)|fault).*");
        nothingElse("promise 26, restore: what there is already changes nothing", w -> {
            rich(w);
            w.save(0);
        }, w -> w.restore(0), UNDOABLE);
    }

    private static void noTraces() {
        Steps made = w -> {
            rich(w);
            w.save(1);
            w.drop(5, 4, 3);
        };
        leavesNoTrace("promise 2, set", made, w -> w.set(RUB, 400));
        leavesNoTrace("promise 3, floor", made, w -> w.floor(5, 5, 2));
        leavesNoTrace("promise 5, clear", made, w -> w.clear());
        leavesNoTrace("promise 6, dip", made, w -> w.dip(5, 5, 4, 100, 0));
        leavesNoTrace("promise 7, takeOut", made, w -> w.takeOut(0));
        leavesNoTrace("promise 8, drop", made, w -> w.drop(5, 5, 100));
        leavesNoTrace("promise 9, probe", made, w -> w.probe(5, 5));
        leavesNoTrace("promise 10, pass", made, w -> w.pass(40));
        leavesNoTrace("promise 26, restore", made, w -> w.restore(0));
        Steps wiped = w -> {
            made.on(w);
            w.wipe();
        };
        leavesNoTrace("promise 4, read", wiped, w -> {
            type(w, MIXED);
            return w.read();
        });
        Steps padless = w -> {
            w.dip(5, 3, 6, 900, 1);
            w.pass(7);
            w.save(0);
            w.pass(9);
            w.save(1);
            w.probe(4, 4);
            w.pass(11);
        };
        noTrace("promises 21 and 22: put and wipe leave no trace", padless, w -> {
            type(w, MIXED);
            w.wipe();
        });
        noTrace("promise 22: wipe of an empty pad leaves no trace", padless, w -> w.wipe());
        Steps saved = w -> {
            made.on(w);
            w.save(1);
        };
        noTrace("promise 25: what is saved already leaves no trace", saved, w -> w.save(1));
    }

    private static void leavesNoTrace(String name, Steps made, Call change) {
        noTrace(name + ": and undo leave no trace in the pad, the slots and the history", made, w -> {
            Due.holds("the call answers no error", change.on(w) >= 0);
            w.undo();
        });
    }

    // ---- 11 to 20, 23

    private static void questions() {
        String spared = ": all questions behind it are answered as without it";
        for (int i = 0; i <= 6; i++) {
            int what = i;
            spares("promise 11, cell: " + what + spared, Boundary::rich, w -> w.cell(1, 1, what));
        }
        for (int i = 0; i <= 5; i++) {
            int what = i;
            spares("promise 12, dipper: " + what + spared, Boundary::rich, w -> w.dipper(1, what));
        }
        for (int i = 0; i <= 4; i++) {
            int what = i;
            spares("promise 13, ofProbe: " + what + spared, Boundary::rich, w -> w.ofProbe(0, what));
        }
        spares("promise 14, seen" + spared, Boundary::rich, w -> w.seen(1, 3));
        for (int i = 0; i <= 14; i++) {
            int what = i;
            spares("promise 15, count: " + what + spared, Boundary::rich, w -> w.count(what));
        }
        spares("promise 16, loudest: 0" + spared, Boundary::rich, w -> w.loudest(0));
        spares("promise 16, loudest: 1" + spared, Boundary::rich, w -> w.loudest(1));
        spares("promise 17, crests" + spared, Boundary::rich, w -> w.crests(3));
        spares("promise 18, ifPassed" + spared, Boundary::rich, w -> w.ifPassed(5, 3, 60));
        spares("promise 19, comes" + spared, w -> {
            rich(w);
            w.set(STILL, 500);
        }, w -> w.comes(7, 1));
        spares("promise 19, comes, never" + spared, Boundary::rich, w -> w.comes(3, 1));
        spares("promise 20, hush: 0" + spared, Boundary::rich, w -> w.hush(2, 5, 2, 30, 0));
        spares("promise 20, hush: 1" + spared, Boundary::rich, w -> w.hush(2, 5, 2, 30, 1));
        spares("promise 23, fault" + spared, Boundary::rich, w -> w.fault());
    }
}
