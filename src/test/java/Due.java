/** Counts the answers that are due, and prints those that are not. */
final class Due {
    private static int right = 0;
    private static int wrong = 0;
    private static String part = "";

    private Due() {
    }

    static void part(String name) {
        part = name;
    }

    static void due(String call, long want, long got) {
        if (got == want) {
            right++;
            return;
        }
        wrong++;
        if (wrong <= 50) {
            System.out.println(part + ": " + call + " answered " + got + ", due is " + want);
        }
    }

    static void holds(String what, boolean holds) {
        due(what, 1, holds ? 1 : 0);
    }

    static int wrong() {
        return wrong;
    }

    static int asked() {
        return right + wrong;
    }

    static void end(String name) {
        System.out.println(name + ": " + right + " answers as due, " + wrong + " not");
        if (wrong != 0 || right == 0) {
            System.exit(1);
        }
    }
}
