import java.util.ArrayList;
import java.util.List;
import java.util.function.Supplier;

/** Two meets made alike: one is called, the other is not, and all that can be seen of the two is held side by side. */
final class Twins {
    /** A call on an object; true counts 1, false 0. */
    interface Call {
        long on(NextLoad x);
    }

    private final Checks checks;
    private final String state;
    private final Supplier<NextLoad> maker;

    Twins(Checks checks, String state, Supplier<NextLoad> maker) {
        this.checks = checks;
        this.state = state;
        this.maker = maker;
    }

    /** The call answers so and changes nothing, the ROW neither: a refused one, or one that tells of no ROW. */
    void same(String call, Call act, long answer) {
        String name = state + ": " + call;
        NextLoad x = maker.get();
        NextLoad y = maker.get();
        checks.due(name, act.on(x), answer);
        alike(name + ", then the ROW", row(x), row(y));
        alikeBesideTheRow(name, x, y);
    }

    /** The call answers so, tells this ROW, and changes nothing else. */
    void tells(String call, Call act, long answer, long... row) {
        String name = state + ": " + call;
        NextLoad x = maker.get();
        NextLoad y = maker.get();
        checks.due(name, act.on(x), answer);
        checks.row(name, x, row);
        alikeBesideTheRow(name, x, y);
    }

    private void alikeBesideTheRow(String name, NextLoad x, NextLoad y) {
        alike(name + ", then what stands", standing(x), standing(y));
        alike(name + ", then what comes", coming(x), coming(y));
    }

    private void alike(String name, List<Long> got, List<Long> want) {
        checks.due(name + " " + got + ", due is " + want, got.equals(want), true);
    }

    private static List<Long> row(NextLoad x) {
        List<Long> all = new ArrayList<>();
        for (int i = 0; i < x.count(7); i++) {
            all.add(x.row(i));
        }
        return all;
    }

    private static List<Long> standing(NextLoad x) {
        List<Long> all = new ArrayList<>();
        for (int what : new int[] {0, 1, 2, 3, 4, 5, 6, 8, 9}) {
            all.add((long) x.count(what));
        }
        for (int i = 0; i < x.count(0); i++) {
            for (int what : new int[] {0, 1, 6, 7, 8, 9, 10, 11}) {
                all.add((long) x.lifter(i, 0, what));
            }
            for (int lift = 0; lift < 3; lift++) {
                for (int what = 2; what <= 5; what++) {
                    all.add((long) x.lifter(i, lift, what));
                }
                all.add((long) x.odds(i, lift, 10, 1));
            }
        }
        return all;
    }

    /** The TRIES up to the end, and what is read if THE TEXT goes on. */
    private static List<Long> coming(NextLoad x) {
        List<Long> all = new ArrayList<>();
        all.add((long) x.plays(99));
        for (int k = 0; k < x.count(4); k++) {
            long code = 0;
            for (int what = 0; what < 4; what++) {
                code = code * 100 + x.tried(k, what);
            }
            all.add(code);
        }
        Checks.write(x, States.three("1=1/1+1+0"));
        all.add((long) x.enters());
        return all;
    }
}
