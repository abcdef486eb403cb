import java.util.NoSuchElementException;

/** Counts answers that are as due, prints those that are not. */
final class Check {
    private static int right = 0;
    private static int wrong = 0;
    private static String about = "";

    private Check() {
    }

    /** What the answers from now on are about: it is told of those that are not as due. */
    static void about(String what) {
        about = what.isEmpty() ? "" : what + ": ";
    }

    static void due(String call, long got, long want) {
        if (got == want) {
            right++;
            return;
        }
        wrong++;
        if (wrong <= 50) {
            System.out.println(about + call + " answered " + got + ", due is " + want);
        }
    }

    static void due(String call, boolean got, boolean want) {
        due(call, got ? 1 : 0, want ? 1 : 0);
    }

    static void due(String call, String got, String want) {
        if (!got.equals(want)) {
            System.out.println(call + " answered \"" + got + "\", due is \"" + want + "\"");
        }
        due(call + " (0: another text)", got.equals(want) ? 1 : 0, 1);
    }

    static void noSuchLife(LateSet set, int k, int what) {
        boolean thrown = false;
        try {
            set.life(k, what);
        } catch (NoSuchElementException e) {
            thrown = true;
        }
        due("life(" + k + ", " + what + ") throws", thrown, true);
    }

    static int wrong() {
        return wrong;
    }

    static int all() {
        return right + wrong;
    }

    static void close() {
        System.out.println(right + " answers as due, " + wrong + " not");
        if (wrong != 0 || right == 0) {
            System.exit(1);
        }
    }
}
