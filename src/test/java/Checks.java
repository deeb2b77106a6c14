/** Counts and prints the answers that are not the due ones; what a test's main method ends with. */
final class Checks {
    private final String name;
    private int made = 0;
    private int wrong = 0;

    Checks(String name) {
        this.name = name;
    }

    void due(String call, long got, long want) {
        made++;
        if (got != want) {
            wrong++;
            if (wrong <= 50) {
                System.out.println(name + ": " + call + " answered " + got + ", due is " + want);
            }
        }
    }

    void due(String call, boolean got, boolean want) {
        due(call, got ? 1 : 0, want ? 1 : 0);
    }

    /** The whole ROW, and that nothing stands beside it. */
    void row(String call, NextLoad x, long... want) {
        due(call + ", then count(7)", x.count(7), want.length);
        for (int i = 0; i < want.length; i++) {
            due(call + ", then row(" + i + ")", rowOf(x, i), want[i]);
        }
        due(call + ", then row(-1) throws", throwsAt(x, -1), true);
        due(call + ", then row(" + want.length + ") throws", throwsAt(x, want.length), true);
    }

    static long rowOf(NextLoad x, int i) {
        try {
            return x.row(i);
        } catch (java.util.NoSuchElementException e) {
            return Long.MIN_VALUE;
        }
    }

    static boolean throwsAt(NextLoad x, int i) {
        try {
            x.row(i);
            return false;
        } catch (java.util.NoSuchElementException e) {
            return true;
        }
    }

    /** Puts a text of any length behind THE TEXT. */
    static void write(NextLoad x, String text) {
        int before = x.count(8);
        for (int i = 0; i < text.length(); i += 4) {
            int v = 0;
            for (int k = 0; k < 4; k++) {
                v = v << 8 | (i + k < text.length() ? text.charAt(i + k) & 255 : 0);
            }
            x.sign(v);
        }
        x.end(before + text.length());
    }

    static int enter(NextLoad x, String text) {
        write(x, text);
        return x.enters();
    }

    void end() {
        System.out.println(name + ": " + made + " answers looked at, " + wrong + " wrong");
        if (wrong != 0) {
            System.exit(1);
        }
    }
}
