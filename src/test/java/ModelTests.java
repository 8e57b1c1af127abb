import java.util.Random;

/** Runs of calls by chance, always the same ones, each answer held against the model's. */
public final class ModelTests {
    // No step takes more than 12 calls, and nothing is promised of an object after its 512th one.
    private static final int CALLS = 512 - 12;

    private final Random random;
    private final DippedWaves waves = new DippedWaves();
    private final Model model = new Model();
    private int calls = 0;

    private ModelTests(long seed) {
        random = new Random(seed);
    }

    public static void main(String[] args) {
        for (int run = 0; run < 400 && Due.wrong() == 0; run++) {
            Due.part("mixed run " + run);
            ModelTests test = new ModelTests(run);
            while (test.calls < CALLS) {
                test.anyCall(true);
            }
        }
        for (int run = 0; run < 400 && Due.wrong() == 0; run++) {
            Due.part("run " + run + " with a look at all");
            ModelTests test = new ModelTests(1000 + run);
            while (test.calls < 30) {
                test.anyCall(false);
            }
            test.lookAtAll();
        }
        Due.end("ModelTests");
    }

    private void due(String call, int want, int got) {
        calls++;
        Due.due("call " + calls + ", " + call, want, got);
    }

    /** Mostly in the range, sometimes just beyond it, seldom far away. */
    private int any(int least, int most) {
        int chance = random.nextInt(60);
        if (chance == 0) {
            return least - 1;
        }
        if (chance == 1) {
            return most + 1;
        }
        if (chance == 2) {
            return random.nextInt();
        }
        if (chance < 6) {
            return chance == 3 ? most : least;
        }
        return least + random.nextInt(most - least + 1);
    }

    private void anyCall(boolean dear) {
        switch (random.nextInt(30)) {
            case 0:
                setAny();
                break;
            case 1:
            case 2:
                floorAny();
                break;
            case 3:
                due("read", model.read(), waves.read());
                break;
            case 4:
                if (random.nextInt(4) == 0) {
                    due("clear", model.clear(), waves.clear());
                }
                break;
            case 5:
            case 6:
                dipAny();
                break;
            case 7:
                int d = any(0, 4);
                due("takeOut(" + d + ")", model.takeOut(d), waves.takeOut(d));
                break;
            case 8:
            case 9:
                dropAny();
                break;
            case 10:
                int px = any(0, 9);
                int py = any(0, 5);
                due("probe(" + px + ", " + py + ")", model.probe(px, py), waves.probe(px, py));
                break;
            case 11:
            case 12:
            case 13:
                int t = random.nextInt(4) == 0 ? any(1, 100) : any(1, 9);
                due("pass(" + t + ")", model.pass(t), waves.pass(t));
                break;
            case 14:
                int u = random.nextInt(3);
                for (int i = 0; i <= u; i++) {
                    due("undo", model.undo(), waves.undo());
                }
                break;
            case 15:
                int v = any(0, 1);
                due("save(" + v + ")", model.save(v), waves.save(v));
                break;
            case 16:
                int r = any(0, 1);
                due("restore(" + r + ")", model.restore(r), waves.restore(r));
                break;
            case 17:
                typeAny();
                break;
            case 18:
                due("fault", model.fault(), waves.fault());
                if (random.nextInt(3) == 0) {
                    due("wipe", model.wipe(), waves.wipe());
                }
                break;
            case 19:
                putAny();
                break;
            case 20:
                if (dear) {
                    hushAny();
                }
                break;
            case 21:
            case 22:
                comesAny();
                break;
            default:
                lookAny();
                break;
        }
    }

    private void setAny() {
        int[] most = {500, 8, 8, 500};
        int setting = any(0, 3);
        int range = setting >= 0 && setting < 4 ? most[setting] : 9;
        int value = range == 500 && random.nextInt(3) > 0 ? any(0, 30) : any(setting == 1 || setting == 2 ? 1 : 0, range);
        due("set(" + setting + ", " + value + ")", model.set(setting, value), waves.set(setting, value));
    }

    private void floorAny() {
        int x = any(0, 9);
        int y = any(0, 5);
        int floor = any(0, 3);
        due("floor(" + x + ", " + y + ", " + floor + ")", model.floor(x, y, floor), waves.floor(x, y, floor));
    }

    private void dipAny() {
        int x = any(0, 9);
        int y = any(0, 5);
        int period = any(2, 40);
        int size = any(1, 900);
        int shift = any(0, Math.max(0, Math.min(40, period) - 1));
        due("dip(" + x + ", " + y + ", " + period + ", " + size + ", " + shift + ")",
            model.dip(x, y, period, size, shift), waves.dip(x, y, period, size, shift));
    }

    private void dropAny() {
        int x = any(0, 9);
        int y = any(0, 5);
        int by = any(-999, 999);
        int times = random.nextInt(8) == 0 ? 12 : 1;
        for (int i = 0; i < times; i++) {
            due("drop(" + x + ", " + y + ", " + by + ")", model.drop(x, y, by), waves.drop(x, y, by));
        }
    }

    private void comesAny() {
        int x = any(0, 9);
        int y = any(0, 5);
        if (random.nextBoolean()) {
            due("comes(" + x + ", " + y + ")", model.comes(x, y), waves.comes(x, y));
        } else {
            int t = any(1, 60);
            due("ifPassed(" + x + ", " + y + ", " + t + ")", model.ifPassed(x, y, t), waves.ifPassed(x, y, t));
        }
    }

    private void hushAny() {
        int d = any(0, 2);
        int x = any(0, 9);
        int y = any(0, 5);
        int t = any(1, 30);
        int what = any(0, 1);
        due("hush(" + d + ", " + x + ", " + y + ", " + t + ", " + what + ")",
            model.hush(d, x, y, t, what), waves.hush(d, x, y, t, what));
    }

    private void lookAny() {
        int x = any(0, 9);
        int y = any(0, 5);
        int what = any(0, 6);
        due("cell(" + x + ", " + y + ", " + what + ")", model.cell(x, y, what), waves.cell(x, y, what));
        int number = any(0, 4);
        int about = any(0, 5);
        int ago = any(0, 23);
        due("dipper(" + number + ", " + about + ")", model.dipper(number, about), waves.dipper(number, about));
        due("ofProbe(" + number + ", " + about + ")", model.ofProbe(number, about), waves.ofProbe(number, about));
        due("seen(" + number + ", " + ago + ")", model.seen(number, ago), waves.seen(number, ago));
        int which = any(0, 14);
        due("count(" + which + ")", model.count(which), waves.count(which));
        int way = any(0, 1);
        due("loudest(" + way + ")", model.loudest(way), waves.loudest(way));
        due("crests(" + y + ")", model.crests(y), waves.crests(y));
    }

    /** A floor's text, sometimes with a sign too few, too many or astray. */
    private void typeAny() {
        due("wipe", model.wipe(), waves.wipe());
        String signs = random.nextBoolean() ? ".....-#~" : "..-#~";
        StringBuilder text = new StringBuilder();
        for (int i = 0; i < 65; i++) {
            text.append(i % 11 == 10 ? '/' : signs.charAt(random.nextInt(signs.length())));
        }
        int chance = random.nextInt(12);
        if (chance == 0) {
            text.setLength(random.nextInt(65));
        } else if (chance == 1) {
            text.append('.');
        } else if (chance == 2) {
            text.setCharAt(random.nextInt(65), (char) (33 + random.nextInt(94)));
        }
        for (int from = 0; from < text.length(); from += 8) {
            long packed = 0;
            for (int i = from; i < Math.min(from + 8, text.length()); i++) {
                packed = packed << 8 | text.charAt(i);
            }
            due("put(" + packed + ")", model.put(packed), waves.put(packed));
        }
        due("fault", model.fault(), waves.fault());
        if (random.nextInt(3) > 0) {
            due("read", model.read(), waves.read());
        }
    }

    private void putAny() {
        long packed = 0;
        int many = random.nextInt(9);
        for (int i = 0; i < many; i++) {
            int code = random.nextInt(25) == 0 ? random.nextInt(256) : 33 + random.nextInt(94);
            packed = packed << 8 | code;
        }
        if (random.nextInt(20) == 0) {
            packed = random.nextLong();
        }
        due("put(" + packed + ")", model.put(packed), waves.put(packed));
    }

    private void lookAtAll() {
        for (int y = 0; y < 6; y++) {
            due("crests(" + y + ")", model.crests(y), waves.crests(y));
            for (int x = 0; x < 10; x++) {
                for (int what = 0; what <= 6; what++) {
                    due("cell(" + x + ", " + y + ", " + what + ")", model.cell(x, y, what), waves.cell(x, y, what));
                }
            }
        }
        for (int what = 0; what <= 14; what++) {
            due("count(" + what + ")", model.count(what), waves.count(what));
        }
        due("loudest(0)", model.loudest(0), waves.loudest(0));
        due("loudest(1)", model.loudest(1), waves.loudest(1));
        for (int i = 0; i < 3; i++) {
            due("ofProbe(" + i + ", 3)", model.ofProbe(i, 3), waves.ofProbe(i, 3));
            due("ofProbe(" + i + ", 4)", model.ofProbe(i, 4), waves.ofProbe(i, 4));
            due("dipper(" + i + ", 5)", model.dipper(i, 5), waves.dipper(i, 5));
        }
    }
}
