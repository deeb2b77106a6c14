import java.util.ArrayList;
import java.util.HashMap;
import java.util.List;
import java.util.Map;

/** The document's words told as plainly as can be, however slow: what OracleTest holds NextLoad against. */
final class SlowMeet {
    static final class Man {
        int body;
        int lot;
        final List<List<int[]>> tables = new ArrayList<>();
        final int[] open = new int[3];
        final int[] more = new int[3];
        final int[] again = new int[3];

        int odds(int lift, int x, int tired) {
            List<int[]> table = tables.get(lift);
            int odds = 0;
            if (x <= table.get(0)[0]) {
                odds = table.get(0)[1];
            } else {
                for (int i = 0; i + 1 < table.size(); i++) {
                    int[] a = table.get(i);
                    int[] b = table.get(i + 1);
                    if (x > a[0] && x <= b[0]) {
                        odds = a[1] - (a[1] - b[1]) * (x - a[0]) / (b[0] - a[0]);
                    }
                }
            }
            return Math.max(0, odds - tired);
        }
    }

    /** One TRY that has been. */
    record Try(int man, int lift, int round, int load, boolean good) { }

    final List<Man> men = new ArrayList<>();
    int tire = 0;
    int lift = 0;
    int round = 0;
    final List<Try> tries = new ArrayList<>();
    /** Asked anew in this round, by lifter. */
    Map<Integer, Integer> changed = new HashMap<>();
    int[] changesUsed = new int[7];
    long[] row = new long[0];

    SlowMeet copy() {
        SlowMeet c = new SlowMeet();
        c.men.addAll(men);
        c.tire = tire;
        c.lift = lift;
        c.round = round;
        c.tries.addAll(tries);
        c.changed = new HashMap<>(changed);
        c.changesUsed = changesUsed.clone();
        return c;
    }

    void begin() {
        lift = 0;
        round = 0;
        tries.clear();
        changed.clear();
        changesUsed = new int[7];
    }

    // ---- what stands

    int best(int i, int l) {
        int best = 0;
        for (Try t : tries) {
            if (t.man == i && t.lift == l && t.good) {
                best = Math.max(best, t.load);
            }
        }
        return best;
    }

    boolean out(int i) {
        for (int l = 0; l < lift; l++) {
            if (best(i, l) == 0) {
                return true;
            }
        }
        return false;
    }

    int sum(int i) {
        return out(i) ? 0 : best(i, 0) + best(i, 1) + best(i, 2);
    }

    Try last(int i) {
        Try last = null;
        for (Try t : tries) {
            if (t.man == i && t.lift == lift) {
                last = t;
            }
        }
        return last;
    }

    int failed(int i) {
        int n = 0;
        for (Try t : tries) {
            if (t.man == i && t.lift == lift && !t.good) {
                n++;
            }
        }
        return n;
    }

    boolean triedNow(int i) {
        Try t = last(i);
        return t != null && t.round == round;
    }

    int asked(int i) {
        if (lift == 3 || out(i)) {
            return 0;
        }
        if (changed.containsKey(i) && !triedNow(i)) {
            return changed.get(i);
        }
        Try t = last(i);
        if (t == null) {
            return round == 0 ? men.get(i).open[lift] : 0;
        }
        if (t.round == 2 || t.round < round - 1) {
            return 0;
        }
        int then = t.load + (t.good ? men.get(i).more[lift] : men.get(i).again[lift]);
        return then > 40 ? 0 : then;
    }

    boolean waits(int i) {
        return asked(i) > 0 && !triedNow(i);
    }

    int bar() {
        int bar = 0;
        for (Try t : tries) {
            if (t.lift == lift && t.round == round) {
                bar = Math.max(bar, t.load);
            }
        }
        return bar;
    }

    int least(int i) {
        if (asked(i) == 0) {
            return 0;
        }
        Try t = last(i);
        int least = t == null ? 1 : t.good ? t.load + 1 : t.load;
        return triedNow(i) ? least : Math.max(least, bar());
    }

    int changes(int i) {
        if (lift == 3) {
            return 0;
        }
        int all = round == 0 ? 1 : lift == 2 && round == 2 ? 2 : 0;
        return all - changesUsed[i];
    }

    List<Integer> order() {
        List<Integer> order = new ArrayList<>();
        for (int i = 0; i < men.size(); i++) {
            if (waits(i)) {
                order.add(i);
            }
        }
        order.sort((a, b) -> asked(a) != asked(b) ? asked(a) - asked(b) : men.get(a).lot - men.get(b).lot);
        return order;
    }

    boolean likeAhead(int i, int j) {
        Man a = men.get(i);
        Man b = men.get(j);
        return a.body < b.body || a.body == b.body && a.lot < b.lot;
    }

    boolean ahead(int i, int j) {
        if (out(i) && !out(j)) {
            return false;
        }
        if (out(j) && !out(i)) {
            return true;
        }
        return sum(i) > sum(j) || sum(i) == sum(j) && likeAhead(i, j);
    }

    List<Integer> places() {
        List<Integer> all = new ArrayList<>();
        for (int i = 0; i < men.size(); i++) {
            all.add(i);
        }
        all.sort((a, b) -> a.equals(b) ? 0 : ahead(a, b) ? -1 : 1);
        return all;
    }

    void tryNow(boolean good) {
        int who = order().get(0);
        tries.add(new Try(who, lift, round, asked(who), good));
    }

    void goOn() {
        while (!men.isEmpty() && lift < 3 && order().isEmpty()) {
            round++;
            changed.clear();
            changesUsed = new int[7];
            if (round == 3) {
                round = 0;
                lift++;
            }
        }
    }

    int draws(int r) {
        while (!order().isEmpty()) {
            int who = order().get(0);
            r = r * 1103515245 + 12345;
            int draw = (int) (Integer.toUnsignedLong(r) / 65536 % 1000);
            tryNow(draw < men.get(who).odds(lift, asked(who), failed(who) * tire));
            goOn();
        }
        return r;
    }

    // ---- thought

    interface Worth {
        long of(int total);
    }

    /** One lifter in thought; a TRY is to come as long as left is above 0. */
    record Spot(int lift, int sum, int best, int failed, int asked, int least, int left) { }

    Spot spot(int i) {
        int left = asked(i) == 0 ? 0 : 3 - round - (triedNow(i) ? 1 : 0);
        int before = 0;
        for (int l = 0; l < lift; l++) {
            before += best(i, l);
        }
        return new Spot(lift, before, lift < 3 ? best(i, lift) : 0, failed(i), asked(i), least(i), left);
    }

    static Spot start(int lift, int sum, Man man) {
        return new Spot(lift, sum, 0, 0, lift < 3 ? man.open[lift] : 0, 1, lift < 3 ? 3 : 0);
    }

    static long mix(long odds, long good, long failed) {
        return (odds * good + (1000 - odds) * failed) / 1000;
    }

    long planned(int i, Worth worth) {
        return out(i) ? worth.of(0) : planned(men.get(i), spot(i), worth);
    }

    private long planned(Man man, Spot s, Worth worth) {
        if (s.lift == 3) {
            return worth.of(s.sum);
        }
        if (s.left == 0 || s.asked > 40) {
            return s.best == 0 ? worth.of(0) : planned(man, start(s.lift + 1, s.sum + s.best, man), worth);
        }
        int x = s.asked;
        long good = planned(man, new Spot(s.lift, s.sum, x, s.failed, x + man.more[s.lift], x + 1, s.left - 1), worth);
        long not = planned(man, new Spot(s.lift, s.sum, s.best, s.failed + 1, x + man.again[s.lift], x, s.left - 1), worth);
        return mix(man.odds(s.lift, x, s.failed * tire), good, not);
    }

    long chance(int i, int w) {
        return planned(i, v -> v >= w ? 1000000 : 0);
    }

    Worth mass() {
        return v -> 1000L * v;
    }

    Worth beat(int i, int j) {
        Map<Integer, Long> known = new HashMap<>();
        int more = likeAhead(i, j) ? 1 : 0;
        return v -> v == 0 ? 0 : known.computeIfAbsent(v, k -> 1000000 - chance(j, k + more));
    }

    Worth win(int i) {
        List<Worth> others = new ArrayList<>();
        for (int j = 0; j < men.size(); j++) {
            if (j != i) {
                others.add(beat(i, j));
            }
        }
        return v -> {
            long value = v == 0 ? 0 : 1000000;
            for (Worth w : others) {
                value = value * w.of(v) / 1000000;
            }
            return value;
        };
    }

    /** FREE VALUE and the LOAD of the TRY to come in that LIFT (0: none). */
    final class FreeThought {
        final Man man;
        final Worth worth;
        final Map<Spot, long[]> known = new HashMap<>();

        FreeThought(Man man, Worth worth) {
            this.man = man;
            this.worth = worth;
        }

        long[] at(Spot told) {
            Spot s = new Spot(told.lift, told.sum, told.best, told.failed, 0, told.least, told.left);
            long[] found = known.get(s);
            if (found == null) {
                found = look(s);
                known.put(s, found);
            }
            return found;
        }

        private long[] look(Spot s) {
            if (s.lift == 3) {
                return new long[] {worth.of(s.sum), 0};
            }
            if (s.left == 0 || s.least > 40) {
                return new long[] {s.best == 0 ? worth.of(0) : at(start(s.lift + 1, s.sum + s.best, man))[0], 0};
            }
            long[] best = {-1, 0};
            for (int x = s.least; x <= 40; x++) {
                long value = mix(man.odds(s.lift, x, s.failed * tire), at(after(s, x, true))[0], at(after(s, x, false))[0]);
                if (value > best[0]) {
                    best = new long[] {value, x};
                }
            }
            return best;
        }

        Spot after(Spot s, int x, boolean good) {
            return good ? new Spot(s.lift, s.sum, x, s.failed, 0, x + 1, s.left - 1)
                : new Spot(s.lift, s.sum, s.best, s.failed + 1, 0, x, s.left - 1);
        }

        /** On to the next TRY: null if there is none. */
        Spot onward(Spot from) {
            Spot s = from;
            while (s.lift < 3 && (s.left == 0 || s.least > 40)) {
                if (s.best == 0) {
                    return null;
                }
                s = start(s.lift + 1, s.sum + s.best, man);
            }
            return s.lift == 3 ? null : s;
        }
    }

    /** FREE VALUE, the LOAD of the next TRY (0: none). */
    long[] freely(int i, Worth worth) {
        if (out(i)) {
            return new long[] {worth.of(0), 0};
        }
        FreeThought thought = new FreeThought(men.get(i), worth);
        Spot next = thought.onward(spot(i));
        return next == null ? thought.at(spot(i)) : thought.at(next);
    }

    List<Long> line(int i, Worth worth, boolean good) {
        List<Long> loads = new ArrayList<>();
        FreeThought thought = new FreeThought(men.get(i), worth);
        Spot s = out(i) ? null : thought.onward(spot(i));
        while (s != null) {
            long x = thought.at(s)[1];
            loads.add(x);
            s = thought.onward(thought.after(s, (int) x, good));
        }
        return loads;
    }

    // ---- the duel

    /** What one of the two made with its last TRY: -1 not tried yet, 0 FAILED, else the LOAD. */
    record Bout(int askA, int askB, int chA, int chB, int madeA, int madeB) { }

    final class DuelThought {
        final int a;
        final int b;
        final Map<Bout, long[]> known = new HashMap<>();

        DuelThought(int a, int b) {
            this.a = a;
            this.b = b;
        }

        boolean isA(Bout d) {
            if (d.madeB >= 0) {
                return true;
            }
            if (d.madeA >= 0) {
                return false;
            }
            return d.askA < d.askB || d.askA == d.askB && men.get(a).lot < men.get(b).lot;
        }

        long[] at(Bout d) {
            long[] found = known.get(d);
            if (found == null) {
                found = look(d);
                known.put(d, found);
            }
            return found;
        }

        private long[] look(Bout d) {
            if (d.madeA >= 0 && d.madeB >= 0) {
                return new long[] {outcome(d), 0};
            }
            boolean isA = isA(d);
            int asked = isA ? d.askA : d.askB;
            int who = isA ? a : b;
            long good = at(isA ? new Bout(d.askA, d.askB, d.chA, d.chB, asked, d.madeB)
                : new Bout(d.askA, d.askB, d.chA, d.chB, d.madeA, asked))[0];
            long not = at(isA ? new Bout(d.askA, d.askB, d.chA, d.chB, 0, d.madeB)
                : new Bout(d.askA, d.askB, d.chA, d.chB, d.madeA, 0))[0];
            long[] best = {mix(men.get(who).odds(2, asked, failed(who) * tire), good, not), 0};
            if ((isA ? d.chA : d.chB) > 0) {
                for (int x = asked + 1; x <= 40; x++) {
                    long v = at(isA ? new Bout(x, d.askB, d.chA - 1, d.chB, d.madeA, d.madeB)
                        : new Bout(d.askA, x, d.chA, d.chB - 1, d.madeA, d.madeB))[0];
                    if (isA ? v > best[0] : v < best[0]) {
                        best = new long[] {v, x};
                    }
                }
            }
            return best;
        }

        private long outcome(Bout d) {
            int bestA = Math.max(best(a, 2), d.madeA);
            int bestB = Math.max(best(b, 2), d.madeB);
            if (bestA == 0) {
                return 0;
            }
            if (bestB == 0) {
                return 1000000;
            }
            int sumA = best(a, 0) + best(a, 1) + bestA;
            int sumB = best(b, 0) + best(b, 1) + bestB;
            return sumA > sumB || sumA == sumB && likeAhead(a, b) ? 1000000 : 0;
        }
    }
}
