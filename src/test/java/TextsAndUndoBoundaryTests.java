/** The boundary cases of the promises 21 to 26: texts, undo, saving. */
public final class TextsAndUndoBoundaryTests extends Boundary {
    private static final String FULL = MIXED + "abcdefg";

    private TextsAndUndoBoundaryTests() {
    }

    public static void main(String[] args) {
        put();
        putFull();
        wipe();
        fault();
        faultAtEachPlace();
        undo();
        undoFull();
        undoLeaves();
        notRecorded();
        save();
        restore();
        restoreBringsAll();
        Due.end("TextsAndUndoBoundaryTests");
    }

    // ---- 21

    private static void put() {
        for (int many = 1; many <= 8; many++) {
            String text = "########".substring(0, many);
            good("promise 21, put: " + many + " characters are good", Boundary::fresh, many, w -> w.put(packed(text)));
        }
        good("promise 21, put: the least code, 33", Boundary::fresh, 1, w -> w.put(33));
        good("promise 21, put: the most code, 126", Boundary::fresh, 1, w -> w.put(126));
        good("promise 21, put: eight of the least code", Boundary::fresh, 8, w -> w.put(packed("!!!!!!!!")));
        good("promise 21, put: eight of the most code", Boundary::fresh, 8, w -> w.put(packed("~~~~~~~~")));
        noText("no character", 0);
        noText("a code just below the least, 32", 32);
        noText("a code just above the most, 127", 127);
        noText("the code 1", 1);
        noText("the code 128", 128);
        noText("the code 255", 255);
        noText("a code just below the least, behind a good one", packed(".") << 8 | 32);
        noText("a code just above the most, behind a good one", packed(".") << 8 | 127);
        noText("a code just below the least, ahead of a good one", 32 << 8 | packed("."));
        noText("a code just above the most, ahead of a good one", 127 << 8 | packed("."));
        noText("a code just below the least, the first of eight", packed(".......") | 32L << 56);
        noText("a code just above the most, the first of eight", packed(".......") | 127L << 56);
        noText("a code above 127, the first of eight", packed(".......") | 0xAEL << 56);
        noText("8 bits that are 0 behind a character", packed(".") << 8);
        noText("8 bits that are 0 between two characters", packed(".") << 16 | packed("."));
        noText("8 bits that are 0 behind seven characters", packed(".......") << 8);
        noText("a bit just above 8 bits that are 0", 1L << 16 | packed("."));
        noText("the highest bit above 8 bits that are 0", 1L << 63 | packed("."));
        noText("the highest bit above 8 bits that are 0, behind six characters", 1L << 63 | packed("......"));
        noText("a bit above 16 bits that are 0", 1L << 24 | packed("."));
        noText("the lowest 8 bits alone are 0, and the highest bit is not", 1L << 63);
        noText("the lowest 32 bits are 0", packed("....") << 32);
        noText("-1", -1);
        noText("the least number", Long.MIN_VALUE);
        noText("the greatest number", Long.MAX_VALUE);
        test("promise 21, put: the lowest 8 bits are the last character", () -> {
            DippedWaves w = new DippedWaves();
            type(w, "#~-" + MIXED.substring(3));
            w.read();
            int[] want = {2, 3, 1, 3};
            for (int x = 0; x < want.length; x++) {
                Due.due("floor " + x, want[x], w.cell(x, 0, 0));
            }
        });
        test("promise 21, put: characters come behind those that there are", () -> {
            DippedWaves w = new DippedWaves();
            for (int i = 0; i < 65; i++) {
                Due.due("length", i + 1, w.put(MIXED.charAt(i)));
            }
            Due.due("fault", NONE, w.fault());
            Due.due("read", MIXED_OPEN, w.read());
        });
    }

    private static void noText(String name, long characters) {
        refused("promise 21, put: " + name, Boundary::rich, BAD_VALUE, w -> w.put(characters));
        refused("promise 21, put: BAD_VALUE ahead of TOO_MANY: " + name, w -> type(w, FULL), BAD_VALUE,
            w -> w.put(characters));
    }

    private static void putFull() {
        padTakes("the 72nd, by itself", 71, 1);
        padTakes("the 72nd, with seven others", 64, 8);
        padTakes("the 71st", 70, 1);
        padRefuses("the 73rd", 72, 1);
        padRefuses("eight more when it is full", 72, 8);
        padRefuses("the 72nd and the 73rd", 71, 2);
        padRefuses("eight, of which the last is the 73rd", 65, 8);
        good("promise 21, put: one more when the full pad was wiped", w -> {
            type(w, FULL);
            w.wipe();
        }, 1, w -> w.put(packed(".")));
    }

    private static void padTakes(String name, int length, int more) {
        good("promise 21, put: the pad takes " + name, w -> type(w, FULL.substring(0, length)), length + more,
            w -> w.put(packed("........".substring(0, more))));
    }

    private static void padRefuses(String name, int length, int more) {
        refused("promise 21, put: the pad refuses " + name, w -> type(w, FULL.substring(0, length)), TOO_MANY,
            w -> w.put(packed("........".substring(0, more))));
    }

    // ---- 22

    private static void wipe() {
        good("promise 22, wipe: the empty pad", Boundary::fresh, 0, w -> w.wipe());
        good("promise 22, wipe: a pad of 1", w -> w.put(46), 1, w -> w.wipe());
        good("promise 22, wipe: the full pad", w -> type(w, FULL), 72, w -> w.wipe());
        good("promise 22, wipe: a pad that was read is empty", w -> {
            type(w, MIXED);
            w.read();
        }, 0, w -> w.wipe());
        test("promise 22, wipe: nothing is left", () -> {
            DippedWaves w = tank(v -> type(v, MIXED));
            w.wipe();
            Due.due("length", 0, w.count(13));
            Due.due("fault", 0, w.fault());
            Due.due("again", 0, w.wipe());
        });
    }

    // ---- 23

    private static void fault() {
        faultOf("the empty pad: its length, 0", 0, "");
        faultOf("it ends behind the first character", 1, ".");
        faultOf("it ends behind the first row", 10, DEEP_ROW);
        faultOf("it ends behind the first slash", 11, DEEP_ROW + "/");
        faultOf("it ends one too early", 64, MIXED.substring(0, 64));
        faultOf("it ends in time: none", NONE, MIXED);
        faultOf("one more: it cannot stand there", 65, MIXED + ".");
        faultOf("a slash behind the last row cannot stand there", 65, MIXED + "/");
        faultOf("the full pad", 65, FULL);
        faultOf("an eleventh cell in a row", 10, DEEP_ROW + ".");
        faultOf("a slash one too early", 9, DEEP_ROW.substring(1) + "/");
        faultOf("a slash as the first one", 0, "/");
        faultOf("two slashes", 11, DEEP_ROW + "//");
        faultOf("of two faults the first one", 3, "...x..y");
        faultOf("a fault ahead of an early end", 0, "x");
        faultOf("a fault as the last one, ahead of an early end", 4, "....x");
        for (char sign = 33; sign <= 126; sign++) {
            boolean cell = ".-#~".indexOf(sign) >= 0;
            faultOf("the sign " + sign + " as a cell", cell ? 1 : 0, "" + sign);
            faultOf("the sign " + sign + " between two rows", sign == '/' ? 11 : 10, DEEP_ROW + sign);
        }
        unchanging("promise 23, fault: none changes nothing", w -> {
            rich(w);
            w.wipe();
            type(w, MIXED);
        }, w -> w.fault());
        unchanging("promise 23, fault: one changes nothing", Boundary::rich, w -> w.fault());
    }

    private static void faultAtEachPlace() {
        for (int i = 0; i < 65; i++) {
            int at = i;
            faultOf("it ends behind " + at, at, MIXED.substring(0, at));
            String wrong = at % 11 == 10 ? "." : "/";
            faultOf("one that cannot stand at " + at, at, MIXED.substring(0, at) + wrong + MIXED.substring(at + 1));
        }
    }

    private static void faultOf(String name, int want, String text) {
        good("promise 23, fault: " + name, w -> type(w, text), want, w -> w.fault());
    }

    // ---- 24

    private static void undo() {
        refused("promise 24, undo: there is none", Boundary::fresh, NOT_POSSIBLE, w -> w.undo());
        refused("promise 24, undo: there is none, though there are waves", w -> {
            rich(w);
            for (int i = 0; i < 4; i++) {
                w.undo();
            }
        }, NOT_POSSIBLE, w -> w.undo());
        good("promise 24, undo: the only one", w -> w.set(RUB, 1), 0, w -> w.undo());
        good("promise 24, undo: one of two", w -> {
            w.set(RUB, 1);
            w.set(RUB, 2);
        }, 1, w -> w.undo());
        refused("promise 24, undo: the only one was undone", w -> {
            w.set(RUB, 1);
            w.undo();
        }, NOT_POSSIBLE, w -> w.undo());
        test("promise 24, undo: what was undone is not recorded", () -> {
            DippedWaves w = new DippedWaves();
            w.set(RUB, 1);
            w.set(RUB, 2);
            w.undo();
            w.undo();
            Due.due("RUB", 10, w.count(9));
            Due.due("no more", NOT_POSSIBLE, w.undo());
        });
        test("promise 24, undo: a change behind an undo takes the place of what was undone", () -> {
            DippedWaves w = new DippedWaves();
            w.set(RUB, 1);
            w.set(RUB, 2);
            w.undo();
            w.set(RUB, 3);
            Due.due("changes", 2, w.count(14));
            w.undo();
            Due.due("RUB", 1, w.count(9));
            w.undo();
            Due.due("RUB then", 10, w.count(9));
        });
        test("promise 24, undo: the oldest heights of a probe come back", () -> {
            DippedWaves w = tank(v -> v.probe(5, 3));
            show(w, 5, 3, 77);
            w.pass(23);
            w.pass(1);
            Due.due("24 kept", 24, w.ofProbe(0, 2));
            w.undo();
            Due.due("the oldest", 10077, w.seen(0, 23));
        });
        test("promise 24, undo: of read and what came then: dippers and probes are where they were", () -> alike(w -> {
            rich(w);
            w.wipe();
            fillHistory(w);
        }, w -> {
            rich(w);
            w.wipe();
            type(w, MIXED);
            w.read();
            w.probe(9, 5);
            w.dip(9, 5, 3, 800, 2);
            w.pass(5);
            for (int i = 0; i < 4; i++) {
                w.undo();
            }
            fillHistory(w);
        }));
        test("promise 24, undo: first ticks are taken back", () -> {
            DippedWaves w = tank(v -> v.dip(5, 3, 4, 900, 0));
            w.pass(1);
            w.undo();
            Due.due("first tick", NONE, w.cell(5, 3, 5));
        });
    }

    private static void undoFull() {
        for (int many : new int[] {1, 5, 6, 7, 8, 20}) {
            test("promise 24, undo: of " + many + " changes " + Math.min(6, many) + " can be undone", () -> {
                DippedWaves w = new DippedWaves();
                for (int i = 1; i <= many; i++) {
                    w.set(RUB, 100 + i);
                    Due.due("changes", Math.min(6, i), w.count(14));
                }
                int left = Math.min(6, many);
                for (int i = 1; i <= Math.min(6, many); i++) {
                    left--;
                    Due.due("left", left, w.undo());
                    Due.due("RUB", many == i ? 10 : 100 + many - i, w.count(9));
                }
                Due.due("no more", NOT_POSSIBLE, w.undo());
                Due.due("RUB stays", many <= 6 ? 10 : 100 + many - 6, w.count(9));
            });
        }
        test("promise 24, undo: a full history that was undone fills up again", () -> {
            DippedWaves w = new DippedWaves();
            for (int round = 1; round <= 3; round++) {
                for (int i = 1; i <= 9; i++) {
                    w.set(RUB, 10 * round + i);
                }
                for (int i = 5; i >= 0; i--) {
                    Due.due("left", i, w.undo());
                    Due.due("RUB", 10 * round + 3 + i, w.count(9));
                }
            }
        });
    }

    private static void undoLeaves() {
        test("promise 24, undo: the pad stays: read is undone, and it is empty", () -> {
            DippedWaves w = tank(v -> type(v, MIXED));
            w.read();
            Due.due("undo()", 0, w.undo());
            Due.due("length", 0, w.count(13));
            Due.due("cells", 60, w.count(1));
        });
        test("promise 24, undo: the pad stays: what was put since", () -> {
            DippedWaves w = tank(v -> v.set(RUB, 1));
            type(w, MIXED);
            w.undo();
            Due.due("fault", NONE, w.fault());
            Due.due("read", MIXED_OPEN, w.read());
        });
        test("promise 24, undo: the pad stays: what was wiped since", () -> {
            DippedWaves w = tank(v -> type(v, MIXED));
            w.set(RUB, 1);
            w.wipe();
            w.undo();
            Due.due("length", 0, w.count(13));
        });
        test("promise 24, undo: the slots stay: what was saved since", () -> {
            DippedWaves w = tank(v -> v.set(RUB, 1));
            w.save(1);
            w.undo();
            w.restore(1);
            Due.due("RUB", 1, w.count(9));
        });
        test("promise 24, undo: the slots stay: what was overwritten since", () -> {
            DippedWaves w = new DippedWaves();
            w.save(0);
            w.set(RUB, 1);
            w.save(0);
            w.undo();
            w.restore(0);
            Due.due("RUB", 1, w.count(9));
        });
        test("promise 24, undo: behind the undo of restore the slot still keeps it", () -> {
            DippedWaves w = tank(Boundary::rich);
            w.restore(0);
            w.undo();
            Due.due("the present tick", 22, w.count(0));
            Due.due("restore(0)", 15, w.restore(0));
        });
    }

    private static void notRecorded() {
        Call[] calls = {
            w -> w.save(0), w -> w.save(1), w -> w.put(46), w -> w.wipe(), w -> w.fault(), w -> w.cell(5, 3, 1),
            w -> w.dipper(0, 0), w -> w.ofProbe(0, 0), w -> w.seen(0, 0), w -> w.count(4), w -> w.loudest(0),
            w -> w.crests(0), w -> w.ifPassed(5, 3, 60), w -> w.comes(9, 5), w -> w.hush(0, 5, 2, 30, 0)};
        String[] names = {
            "save(0)", "save(1)", "put", "wipe", "fault", "cell", "dipper", "ofProbe", "seen", "count", "loudest",
            "crests", "ifPassed", "comes", "hush"};
        for (int i = 0; i < calls.length; i++) {
            Call call = calls[i];
            test("promise 24, undo: no change, and not recorded: " + names[i], () -> {
                DippedWaves w = tank(Boundary::rich);
                int height = height(w, 0, 5);
                call.on(w);
                Due.due("changes", 4, w.count(14));
                Due.due("undo()", 3, w.undo());
                Due.due("the drop, the last change, is undone", height - 88, height(w, 0, 5));
            });
        }
    }

    // ---- 25

    private static void save() {
        for (int slot : new int[] {-1, 2, Integer.MIN_VALUE, Integer.MAX_VALUE}) {
            refused("promise 25, save: no slot " + slot, Boundary::rich, BAD_VALUE, w -> w.save(slot));
        }
        for (int slot = 0; slot <= 1; slot++) {
            int asked = slot;
            good("promise 25, save: the slot " + slot + " is good", Boundary::rich, 22, w -> w.save(asked));
            good("promise 25, save: a new object, slot " + slot, Boundary::fresh, 0, w -> w.save(asked));
            nothingElse("promise 25, save: nothing is different in the tank, slot " + slot, Boundary::rich,
                w -> w.save(asked), "");
            good("promise 25, save: the other slot stays empty, not " + slot, w -> w.save(asked), NOT_POSSIBLE,
                w -> w.restore(1 - asked));
        }
        test("promise 25, save: it overwrites what was saved there, and not the other slot", () -> {
            DippedWaves w = new DippedWaves();
            w.save(0);
            w.save(1);
            w.pass(3);
            w.save(0);
            Due.due("restore(1)", 0, w.restore(1));
            Due.due("restore(0)", 3, w.restore(0));
        });
        test("promise 25, save: the pad, the history and the slots are not saved", () -> {
            DippedWaves w = tank(Boundary::rich);
            w.save(1);
            w.wipe();
            w.undo();
            w.undo();
            w.restore(1);
            Due.due("the pad", 0, w.count(13));
            Due.due("changes", 3, w.count(14));
            Due.due("the other slot", 15, w.restore(0));
        });
    }

    // ---- 26

    private static void restore() {
        for (int slot : new int[] {-1, 2, Integer.MIN_VALUE, Integer.MAX_VALUE}) {
            refused("promise 26, restore: no slot " + slot, Boundary::rich, BAD_VALUE, w -> w.restore(slot));
            refused("promise 26, restore: BAD_VALUE ahead of NOT_POSSIBLE, " + slot, Boundary::fresh, BAD_VALUE,
                w -> w.restore(slot));
        }
        refused("promise 26, restore: nothing was saved in the first slot", w -> w.save(1), NOT_POSSIBLE,
            w -> w.restore(0));
        refused("promise 26, restore: nothing was saved in the last slot", Boundary::rich, NOT_POSSIBLE,
            w -> w.restore(1));
        good("promise 26, restore: the first slot", Boundary::rich, 15, w -> w.restore(0));
        good("promise 26, restore: the last slot", w -> {
            rich(w);
            w.save(1);
            w.pass(1);
        }, 22, w -> w.restore(1));
        recorded("promise 26, restore: is a change", Boundary::rich, w -> w.restore(0));
        recorded("promise 26, restore: what there is already is a change, too", w -> {
            rich(w);
            w.save(0);
        }, w -> w.restore(0));
        test("promise 26, restore: the slot keeps it", () -> {
            DippedWaves w = tank(Boundary::rich);
            for (int i = 0; i < 8; i++) {
                Due.due("restore(0)", 15, w.restore(0));
                Due.due("sum", 23, w.pass(8) >= 0 ? w.count(0) : -1);
                w.set(RUB, i);
            }
            w.restore(0);
            Due.due("RUB", 7, w.count(9));
        });
        test("promise 26, restore: the pad stays", () -> {
            DippedWaves w = tank(Boundary::rich);
            w.restore(0);
            Due.due("length", 20, w.count(13));
        });
    }

    private static void restoreBringsAll() {
        restores("much was changed", w -> {
            w.set(DEEP, 2);
            w.floor(0, 0, 3);
            w.takeOut(0);
            w.probe(4, 2);
            w.drop(9, 5, 800);
            w.pass(31);
        });
        restores("the floor was read", w -> {
            type(w, MIXED);
            w.read();
        });
        restores("dippers and probes were put elsewhere since", w -> {
            type(w, MIXED);
            w.read();
            for (int i = 0; i < 3; i++) {
                w.probe(9 - i, 5 - i);
                w.dip(9 - i, 5 - 2 * i, 3, 800, i);
            }
            w.pass(30);
        });
        restores("the water was cleared", w -> w.clear());
        restores("all was undone", w -> {
            for (int i = 0; i < 4; i++) {
                w.undo();
            }
        });
    }

    private static void restores(String name, Steps changed) {
        test("promise 26, restore: all is as it was saved, though " + name, () -> alike(w -> {
            rich(w);
            w.wipe();
            fillHistory(w);
        }, w -> {
            rich(w);
            w.wipe();
            w.save(1);
            changed.on(w);
            w.restore(1);
            fillHistory(w);
        }));
    }

    /** Questions tell the same of all tanks whose history is full. */
    private static void fillHistory(DippedWaves w) {
        for (int i = 0; i < 6; i++) {
            w.set(RUB, w.count(9));
        }
    }
}
