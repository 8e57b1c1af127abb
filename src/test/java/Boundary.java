import java.util.ArrayList;
import java.util.HashSet;
import java.util.List;
import java.util.Set;
import java.util.regex.Pattern;

/**
 * What the tests of boundary cases share. Each such test bears a name that tells which promise and which case it is,
 * and works on new objects, none of which is used for more than the 512 calls that the document promises.
 */
abstract class Boundary {
    static final int NO_SUCH = -1, BAD_VALUE = -2, BAD_TEXT = -3, TOO_MANY = -4, NOT_POSSIBLE = -5, NONE = -6;
    static final int RUB = 0, DEEP = 1, SHALLOW = 2, STILL = 3;
    static final int[] FAR = {Integer.MIN_VALUE, Integer.MAX_VALUE};
    static final String DEEP_ROW = "..........";
    static final String WALL_ROW = "##########";
    static final String MIXED = ".-#~....../" + DEEP_ROW + "/" + WALL_ROW + "/" + DEEP_ROW + "/-......-../~~~~~~~~--";
    static final int MIXED_OPEN = 49;

    // So many questions, before and behind a call, leave room for the calls that make the tank.
    private static final int SLICE = 180;
    private static final Set<String> NAMES = new HashSet<>();
    private static final List<Question> QUESTIONS = questions();

    interface Steps {
        void on(DippedWaves w);
    }

    interface Call {
        int on(DippedWaves w);
    }

    interface CellCall {
        int on(DippedWaves w, int x, int y);
    }

    record Question(String name, Call call) {
    }

    // ---- the kinds of tests

    static void test(String name, Runnable body) {
        Due.part(name);
        Due.holds("the name is used once", NAMES.add(name));
        int before = Due.asked();
        body.run();
        Due.holds("the test asks something", Due.asked() > before);
    }

    /** A call that is still good answers this, on a new object on which these steps were taken. */
    static void good(String name, Steps made, int want, Call call) {
        test(name, () -> Due.due("the call", want, call.on(tank(made))));
    }

    /** A call that is refused answers its error and changes nothing that can be told, at once or later. */
    static void refused(String name, Steps made, int error, Call call) {
        test(name, () -> {
            nothingChanges(made, call, error);
            DippedWaves asked = tank(made);
            Due.due("the call", error, call.on(asked));
            sameLater(tank(made), asked);
        });
    }

    /** A question that is answered, and changes nothing that can be told, at once or later. */
    static void unchanging(String name, Steps made, Call question) {
        test(name, () -> {
            nothingChanges(made, question, question.on(tank(made)));
            DippedWaves asked = tank(made);
            question.on(asked);
            sameLater(tank(made), asked);
        });
    }

    /** A call that is good, behind which these questions alone, by their names, may be answered in another way. */
    static void nothingElse(String name, Steps made, Call call, String others) {
        test(name, () -> {
            Pattern may = Pattern.compile(others);
            for (int from = 0; from < QUESTIONS.size(); from += SLICE) {
                DippedWaves w = tank(made);
                int[] before = answers(w, from);
                Due.holds("the call answers no error", call.on(w) >= 0);
                int[] behind = answers(w, from);
                for (int i = 0; i < before.length; i++) {
                    String question = QUESTIONS.get(from + i).name();
                    if (!may.matcher(question).matches()) {
                        Due.due(question + " then", before[i], behind[i]);
                    }
                }
            }
        });
    }

    /** Behind these steps nothing is told in another way than without them: the pad, the slots and the history, too. */
    static void noTrace(String name, Steps made, Steps more) {
        test(name, () -> {
            alike(made, w -> {
                made.on(w);
                more.on(w);
            });
            DippedWaves w = tank(made);
            more.on(w);
            sameLater(tank(made), w);
        });
    }

    /**
     * Behind this question all are answered as without it, also when changes come between. Each is asked on a new object
     * that is asked nothing else: what a question would change can't be hidden by the like of it.
     */
    static void spares(String name, Steps made, Call question) {
        test(name, () -> {
            int answer = question.on(tank(made));
            Due.holds("the question answers no error", answer >= 0 || answer == NONE);
            for (Question other : QUESTIONS) {
                spared(other.name(), made, question, other.call());
            }
            for (int undone = 1; undone <= 6; undone++) {
                int many = undone;
                for (int what : new int[] {0, 4}) {
                    spared("count(" + what + ") and " + undone + " undone", made, question, w -> {
                        for (int i = 0; i < many; i++) {
                            w.undo();
                        }
                        return w.count(what);
                    });
                }
            }
            for (int slot = 0; slot <= 1; slot++) {
                int asked = slot;
                for (int what : new int[] {0, 4}) {
                    spared("count(" + what + ") and restored " + slot, made, question, w -> {
                        w.restore(asked);
                        return w.count(what);
                    });
                }
            }
            for (int at = 0; at < 60; at++) {
                int place = at;
                spared("floor " + at + " and read", made, question, w -> {
                    type(w, MIXED.substring(w.count(13)));
                    w.read();
                    return w.cell(place % 10, place / 10, 0);
                });
            }
        });
    }

    private static void spared(String name, Steps made, Call question, Call other) {
        int want = other.on(tank(made));
        DippedWaves w = tank(made);
        question.on(w);
        Due.due(name + " then", want, other.on(w));
    }

    /** A change is recorded, and undo brings all back that questions tell. */
    static void recorded(String name, Steps made, Call change) {
        test(name, () -> {
            for (int from = 0; from < QUESTIONS.size(); from += SLICE) {
                DippedWaves w = tank(made);
                int[] before = answers(w, from);
                int undone = w.count(14);
                Due.holds("the call answers no error", change.on(w) >= 0);
                Due.due("changes that can be undone", undone + 1, w.count(14));
                Due.due("undo()", undone, w.undo());
                compare(from, before, answers(w, from));
            }
        });
    }

    /** Refuses cells beyond each side of the tank, also those whose place among 60 would be one of another cell. */
    static void noCells(String name, Steps made, CellCall call) {
        int[][] beyond = {
            {-1, 0}, {-1, 3}, {10, 0}, {10, 2}, {0, -1}, {9, -1}, {0, 6}, {9, 6}, {-1, -1}, {10, 6},
            {Integer.MIN_VALUE, 1}, {Integer.MAX_VALUE, 1}, {1, Integer.MIN_VALUE}, {1, Integer.MAX_VALUE},
            {-10, 1}, {20, -1}, {0, 429496730}};
        for (int[] c : beyond) {
            refused(name + ": no cell " + c[0] + ", " + c[1], made, NO_SUCH, w -> call.on(w, c[0], c[1]));
        }
    }

    /** The cells in the four corners are the first and the last ones that are good. */
    static void corners(String name, Steps made, int want, CellCall call) {
        int[][] corners = {{0, 0}, {9, 0}, {0, 5}, {9, 5}};
        for (int[] c : corners) {
            good(name + ": the corner " + c[0] + ", " + c[1] + " is good", made, want, w -> call.on(w, c[0], c[1]));
        }
    }

    // ---- tanks

    static DippedWaves tank(Steps made) {
        DippedWaves w = new DippedWaves();
        made.on(w);
        return w;
    }

    static void fresh(DippedWaves w) {
    }

    /** Something of all: floors, dippers, probes, waves, a filled slot, half a pad, a history with room for two. */
    static void rich(DippedWaves w) {
        w.set(RUB, 7);
        w.set(SHALLOW, 5);
        w.floor(3, 1, 2);
        w.floor(4, 4, 1);
        w.floor(7, 2, 3);
        w.dip(1, 1, 6, 400, 2);
        w.dip(8, 4, 9, 250, 8);
        w.probe(2, 2);
        w.pass(9);
        w.probe(7, 3);
        w.drop(6, 1, -350);
        w.pass(6);
        w.save(0);
        w.dip(5, 3, 40, 120, 30);
        w.pass(7);
        w.drop(0, 5, 88);
        type(w, MIXED.substring(0, 20));
        w.set(STILL, 20);
        w.floor(9, 0, 2);
        w.undo();
        w.undo();
    }

    static void fiveDippers(DippedWaves w) {
        w.floor(3, 1, 2);
        for (int i = 0; i < 5; i++) {
            w.dip(2 * i, i, 10 + i, 100 + i, i);
        }
    }

    static void threeProbes(DippedWaves w) {
        for (int i = 0; i < 3; i++) {
            w.probe(2 * i, i);
        }
    }

    static void upAndDown(DippedWaves w) {
        w.drop(0, 0, 999);
        w.drop(9, 5, -999);
    }

    /** A cell at 5, 3 with walls on its four sides, where no height is lost. */
    static void pool(DippedWaves w) {
        w.set(RUB, 0);
        w.floor(4, 3, 2);
        w.floor(6, 3, 2);
        w.floor(5, 2, 2);
        w.floor(5, 4, 2);
    }

    /** The pool, with these heights ahead of the last tick and now. */
    static DippedWaves pooled(int ahead, int now) {
        DippedWaves w = tank(Boundary::pool);
        raise(w, 5, 3, ahead);
        w.pass(1);
        raise(w, 5, 3, now);
        return w;
    }

    /** The pool, with the same height ahead and now: but for floor and RUB its next one is the same again. */
    static DippedWaves steady(int height, int floor, int rub) {
        return followed(height, height, floor, rub);
    }

    static DippedWaves followed(int ahead, int now, int floor, int rub) {
        DippedWaves w = pooled(ahead, now);
        w.floor(5, 3, floor);
        w.set(RUB, rub);
        return w;
    }

    static int poolHeight(DippedWaves w) {
        return w.cell(5, 3, 1) - 10000;
    }

    static void raise(DippedWaves w, int x, int y, int height) {
        int now = w.cell(x, y, 1) - 10000;
        for (int i = 0; i < 25 && now != height; i++) {
            now = w.drop(x, y, Math.max(-999, Math.min(999, height - now))) - 10000;
        }
        Due.due("raised to", height, now);
    }

    static int height(DippedWaves w, int x, int y) {
        return w.cell(x, y, 1) - 10000;
    }

    /** Lets the cell have these heights, none of them 0, behind one tick after another. */
    static void show(DippedWaves w, int x, int y, int... heights) {
        for (int height : heights) {
            int tick = w.count(0);
            int dipper = w.dip(x, y, 2, Math.abs(height), height > 0 ? (tick + 1) % 2 : tick % 2);
            w.pass(1);
            w.takeOut(dipper);
        }
    }

    /** Puts a text, up to eight characters a call. */
    static void type(DippedWaves w, String text) {
        for (int from = 0; from < text.length(); from += 8) {
            String part = text.substring(from, Math.min(text.length(), from + 8));
            Due.holds("the pad takes " + part, w.put(packed(part)) > 0);
        }
    }

    static long packed(String text) {
        long packed = 0;
        for (int i = 0; i < text.length(); i++) {
            packed = packed << 8 | text.charAt(i);
        }
        return packed;
    }

    // ---- what can be told

    private static List<Question> questions() {
        List<Question> all = new ArrayList<>();
        for (int at = 0; at < 60; at++) {
            int x = at % 10;
            int y = at / 10;
            for (int what = 0; what <= 6; what++) {
                int asked = what;
                all.add(new Question("cell(" + x + ", " + y + ", " + what + ")", w -> w.cell(x, y, asked)));
            }
            all.add(new Question("comes(" + x + ", " + y + ")", w -> w.comes(x, y)));
        }
        for (int i = 0; i < 6; i++) {
            int number = i;
            for (int what = 0; what <= 5; what++) {
                int asked = what;
                all.add(new Question("dipper(" + i + ", " + what + ")", w -> w.dipper(number, asked)));
                all.add(new Question("ofProbe(" + i + ", " + what + ")", w -> w.ofProbe(number, asked)));
            }
            all.add(new Question("crests(" + i + ")", w -> w.crests(number)));
        }
        for (int i = 0; i < 75; i++) {
            int probe = i / 25;
            int ago = i % 25;
            all.add(new Question("seen(" + probe + ", " + ago + ")", w -> w.seen(probe, ago)));
        }
        for (int i = 0; i <= 14; i++) {
            int what = i;
            all.add(new Question("count(" + what + ")", w -> w.count(what)));
        }
        all.add(new Question("loudest(0)", w -> w.loudest(0)));
        all.add(new Question("loudest(1)", w -> w.loudest(1)));
        all.add(new Question("ifPassed(2, 3, 17)", w -> w.ifPassed(2, 3, 17)));
        all.add(new Question("ifPassed(9, 5, 60)", w -> w.ifPassed(9, 5, 60)));
        all.add(new Question("hush(0, 6, 2, 20, 0)", w -> w.hush(0, 6, 2, 20, 0)));
        all.add(new Question("hush(0, 6, 2, 20, 1)", w -> w.hush(0, 6, 2, 20, 1)));
        all.add(new Question("fault()", w -> w.fault()));
        return all;
    }

    static void nothingChanges(Steps made, Call call, int want) {
        for (int from = 0; from < QUESTIONS.size(); from += SLICE) {
            DippedWaves w = tank(made);
            int[] before = answers(w, from);
            Due.due("the call", want, call.on(w));
            compare(from, before, answers(w, from));
        }
    }

    /** Each question answers the same on both, new objects with these steps. */
    static void alike(Steps one, Steps other) {
        for (int from = 0; from < QUESTIONS.size(); from += SLICE) {
            compare(from, answers(tank(one), from), answers(tank(other), from));
        }
    }

    private static int[] answers(DippedWaves w, int from) {
        int[] answers = new int[Math.min(SLICE, QUESTIONS.size() - from)];
        for (int i = 0; i < answers.length; i++) {
            answers[i] = QUESTIONS.get(from + i).call().on(w);
        }
        return answers;
    }

    private static void compare(int from, int[] want, int[] got) {
        for (int i = 0; i < want.length; i++) {
            Due.due(QUESTIONS.get(from + i).name() + " then", want[i], got[i]);
        }
    }

    private static void sameLater(DippedWaves spared, DippedWaves asked) {
        int[] want = later(spared);
        int[] got = later(asked);
        for (int i = 0; i < want.length; i++) {
            Due.due("later answer " + i, want[i], got[i]);
        }
    }

    /** What no question tells at once: the characters of the pad, the states of the history, the slots. */
    private static int[] later(DippedWaves w) {
        List<Integer> told = new ArrayList<>();
        int length = w.count(13);
        if (length < MIXED.length()) {
            type(w, MIXED.substring(length));
        }
        told.add(w.fault());
        told.add(w.read());
        for (int at = 0; at < 60; at++) {
            told.add(w.cell(at % 10, at / 10, 0));
        }
        for (int i = 0; i < 7; i++) {
            told.add(w.undo());
            look(w, told);
        }
        for (int slot = 0; slot < 2; slot++) {
            told.add(w.restore(slot));
            look(w, told);
            told.add(w.pass(3));
            look(w, told);
        }
        return told.stream().mapToInt(Integer::intValue).toArray();
    }

    private static void look(DippedWaves w, List<Integer> told) {
        for (int what = 0; what <= 14; what++) {
            told.add(w.count(what));
        }
        told.add(w.dipper(0, 3));
        told.add(w.ofProbe(0, 2));
        told.add(w.seen(0, 0));
    }
}
