import java.util.ArrayList;
import java.util.List;
import java.util.Random;

/** Drawn runs of calls, each answer, the ROW and what stands held against the slow meet. */
public final class OracleTest {
    private static final Checks CHECKS = new Checks("OracleTest");
    private final Random random;
    private final NextLoad x = new NextLoad();
    private final SlowMeet m = new SlowMeet();
    private int dear = 2;

    private OracleTest(long seed) {
        // small seeds draw alike at first
        random = new Random(seed * 0x9E3779B97F4A7C15L);
    }

    public static void main(String[] args) {
        int runs = args.length > 0 ? Integer.parseInt(args[0]) : 150;
        int first = args.length > 1 ? Integer.parseInt(args[1]) : 0;
        for (int seed = first; seed < first + runs; seed++) {
            new OracleTest(seed).run("run " + seed + ": ");
        }
        CHECKS.end();
    }

    private int below(int n) {
        return random.nextInt(n);
    }

    private int between(int low, int high) {
        return low + below(high - low + 1);
    }

    private void run(String name) {
        int men = 1 + below(random.nextBoolean() ? 3 : 6);
        int heaviest = random.nextBoolean() ? 40 : between(8, 40);
        for (int i = 0; i < men; i++) {
            enter(name, heaviest);
        }
        if (random.nextBoolean()) {
            tires(name);
        }
        int good = below(11);
        if (random.nextBoolean()) {
            goToLastRound(name, Math.max(5, good));
        }
        for (int i = 0; i < 120; i++) {
            if (below(3) == 0) {
                meetGoesOn(name, good);
            } else {
                ask(name);
            }
            stands(name);
        }
    }

    /** There alone one can duel, and few runs get there by themselves. */
    private void goToLastRound(String name, int good) {
        while (m.lift < 2 || m.lift == 2 && m.round < 2) {
            tries(name, below(10) < good);
        }
        for (int i = 0; i < 25; i++) {
            fight(name);
            if (below(5) == 0) {
                asks(name);
            }
            stands(name);
        }
    }

    private SlowMeet.Man drawMan(int heaviest) {
        SlowMeet.Man man = new SlowMeet.Man();
        man.body = below(3) == 0 ? between(1, 200) : between(70, 72);
        do {
            man.lot = between(0, 99);
        } while (lotTaken(man.lot));
        for (int lift = 0; lift < 3; lift++) {
            List<int[]> table = new ArrayList<>();
            int points = between(1, 6);
            int load = 0;
            int odds = 1000;
            for (int p = 0; p < points && load < heaviest; p++) {
                load = between(load + 1, Math.min(heaviest, load + 1 + heaviest / 2));
                odds = below(6) == 0 ? odds : between(p == 0 ? odds / 2 : odds / 4, odds);
                table.add(new int[] {load, odds});
            }
            man.tables.add(table);
            man.open[lift] = between(1, Math.min(40, load + 2));
            man.more[lift] = between(1, 9);
            man.again[lift] = below(2) == 0 ? 0 : between(0, 9);
        }
        return man;
    }

    private boolean lotTaken(int lot) {
        for (SlowMeet.Man man : m.men) {
            if (man.lot == lot) {
                return true;
            }
        }
        return false;
    }

    static String textOf(SlowMeet.Man man) {
        StringBuilder text = new StringBuilder();
        text.append(man.body).append(',').append(man.lot);
        for (int lift = 0; lift < 3; lift++) {
            char between = ';';
            for (int[] point : man.tables.get(lift)) {
                text.append(between).append(point[0]).append('=').append(point[1]);
                between = ',';
            }
            text.append('/').append(man.open[lift]).append('+').append(man.more[lift]).append('+').append(man.again[lift]);
        }
        return text.toString();
    }

    private void enter(String name, int heaviest) {
        SlowMeet.Man man = drawMan(heaviest);
        int got = Checks.enter(x, textOf(man));
        if (m.men.size() == 6) {
            CHECKS.due(name + "enters()", got, -2);
            return;
        }
        m.men.add(man);
        m.begin();
        CHECKS.due(name + "enters() " + textOf(man), got, m.men.size() - 1);
    }

    private void row(long... numbers) {
        m.row = numbers;
    }

    private static long[] toRow(List<? extends Number> numbers) {
        long[] row = new long[numbers.size()];
        for (int i = 0; i < row.length; i++) {
            row[i] = numbers.get(i).longValue();
        }
        return row;
    }

    /** Mostly one that there is; at times one that is not. */
    private int drawLifter() {
        if (below(25) == 0) {
            return new int[] {-1, m.men.size(), Integer.MIN_VALUE, Integer.MAX_VALUE, 6, 7}[below(6)];
        }
        return m.men.isEmpty() ? 0 : below(m.men.size());
    }

    private int near(int low, int high) {
        return below(25) == 0 ? new int[] {low - 1, high + 1, Integer.MIN_VALUE, Integer.MAX_VALUE}[below(4)] : between(low, high);
    }

    private boolean is(int i) {
        return i >= 0 && i < m.men.size();
    }

    private static boolean in(int v, int low, int high) {
        return v >= low && v <= high;
    }

    // ---- what changes

    private void meetGoesOn(String name, int good) {
        int kind = below(40);
        if (kind == 0) {
            rareChange(name);
        } else if (kind < 10) {
            asks(name);
        } else {
            tries(name, below(10) < good);
        }
    }

    private void rareChange(String name) {
        switch (below(6)) {
            case 0:
                enter(name, 40);
                break;
            case 1:
                CHECKS.due(name + "leaves()", x.leaves(), m.men.isEmpty() ? -2 : m.men.size() - 1);
                if (!m.men.isEmpty()) {
                    m.men.remove(m.men.size() - 1);
                    m.begin();
                }
                break;
            case 2:
                plans(name);
                break;
            case 3:
                tires(name);
                break;
            case 4:
                CHECKS.due(name + "begins()", x.begins(), m.men.size());
                m.begin();
                break;
            default:
                plays(name);
                break;
        }
    }

    private void tires(String name) {
        int e = near(0, random.nextBoolean() ? 300 : 60);
        CHECKS.due(name + "tires(" + e + ")", x.tires(e), in(e, 0, 300) ? m.tire : -1);
        m.tire = in(e, 0, 300) ? e : m.tire;
    }

    private void plans(String name) {
        int i = drawLifter();
        int lift = near(0, 2);
        int what = near(0, 2);
        int v = near(0, 40);
        String call = name + "plans(" + i + ", " + lift + ", " + what + ", " + v + ")";
        boolean fits = what == 0 ? in(v, 1, 40) : what == 1 ? in(v, 1, 9) : what == 2 && in(v, 0, 9);
        if (!is(i) || !in(lift, 0, 2) || !fits) {
            CHECKS.due(call, x.plans(i, lift, what, v), -1);
            return;
        }
        SlowMeet.Man man = m.men.get(i);
        int[] of = what == 0 ? man.open : what == 1 ? man.more : man.again;
        CHECKS.due(call, x.plans(i, lift, what, v), of[lift]);
        of[lift] = v;
        m.begin();
    }

    private void plays(String name) {
        int seed = random.nextInt();
        String call = name + "plays(" + seed + ")";
        if (m.order().isEmpty()) {
            CHECKS.due(call, x.plays(seed), -2);
            return;
        }
        int before = m.tries.size();
        m.draws(seed);
        CHECKS.due(call, x.plays(seed), m.tries.size() - before);
        row(toRow(m.places()));
    }

    private void asks(String name) {
        int i = drawLifter();
        int load = near(1, 40);
        if (is(i) && random.nextBoolean()) {
            load = m.least(i) + between(-1, 3);
        }
        int due;
        if (!is(i) || !in(load, 1, 40)) {
            due = -1;
        } else if (!m.waits(i)) {
            due = -2;
        } else if (m.changes(i) == 0) {
            due = -3;
        } else if (load < m.least(i) || load == m.asked(i)) {
            due = -4;
        } else {
            m.changed.put(i, load);
            m.changesUsed[i]++;
            due = m.changes(i);
        }
        CHECKS.due(name + "asks(" + i + ", " + load + ")", x.asks(i, load), due);
    }

    private void tries(String name, boolean good) {
        String call = name + "tries(" + good + ")";
        if (m.order().isEmpty()) {
            CHECKS.due(call, x.tries(good), -2);
            return;
        }
        int who = m.order().get(0);
        int load = m.asked(who);
        m.tryNow(good);
        row(load, m.asked(who));
        m.goOn();
        CHECKS.due(call, x.tries(good), who);
    }

    // ---- what only asks

    private void ask(String name) {
        int kind = below(27);
        if (kind < 8) {
            askMeet(name, kind);
        } else if (kind < 16) {
            askPlan(name, kind);
        } else if (kind < 22) {
            // from the very beginning the slow meet takes seconds
            if (m.lift > 0 || m.men.isEmpty() || dear > 0 && below(60) == 0) {
                dear -= m.lift > 0 ? 0 : 1;
                askFree(name, kind);
            }
        } else if (kind < 26) {
            fight(name);
        } else {
            often(name);
        }
    }

    private void askMeet(String name, int kind) {
        int i = drawLifter();
        int j = drawLifter();
        int lift = near(0, 2);
        switch (kind) {
            case 0:
                int load = near(1, 40);
                int f = near(0, 2);
                CHECKS.due(name + "odds(" + i + ", " + lift + ", " + load + ", " + f + ")", x.odds(i, lift, load, f),
                    is(i) && in(lift, 0, 2) && in(load, 1, 40) && in(f, 0, 2) ? m.men.get(i).odds(lift, load, f * m.tire) : -1);
                break;
            case 1:
                List<Integer> order = m.order();
                CHECKS.due(name + "called()", x.called(), order.isEmpty() ? -2 : order.get(0));
                if (!order.isEmpty()) {
                    int who = order.get(0);
                    row(m.asked(who), m.men.get(who).odds(m.lift, m.asked(who), m.failed(who) * m.tire));
                }
                break;
            case 2:
                CHECKS.due(name + "order()", x.order(), m.order().size());
                row(toRow(m.order()));
                break;
            case 3:
                int k = near(0, Math.max(0, m.tries.size() - 1));
                int what = near(0, 3);
                CHECKS.due(name + "tried(" + k + ", " + what + ")", x.tried(k, what), slowTried(k, what));
                break;
            case 4:
                CHECKS.due(name + "place(" + i + ")", x.place(i), is(i) ? m.places().indexOf(i) : -1);
                if (is(i)) {
                    row(toRow(m.places()));
                }
                break;
            case 5:
            case 6:
                int slot = near(0, 5);
                CHECKS.due(name + "slot(" + i + ", " + slot + ")", x.slot(i, slot), slowSlot(i, slot));
                break;
            default:
                CHECKS.due(name + "needs(" + i + ", " + j + ")", x.needs(i, j), slowNeeds(i, j));
                break;
        }
    }

    private int slowTried(int k, int what) {
        if (k < 0 || k >= m.tries.size() || what < 0 || what > 3) {
            return -1;
        }
        SlowMeet.Try t = m.tries.get(k);
        return what == 0 ? t.man() : what == 1 ? t.lift() : what == 2 ? t.load() : t.good() ? 1 : 0;
    }

    private int slowSlot(int i, int k) {
        if (!is(i) || k < 0) {
            return -1;
        }
        if (!m.waits(i)) {
            return -2;
        }
        for (int load = m.least(i); load <= 40; load++) {
            SlowMeet c = m.copy();
            c.changed.put(i, load);
            if (c.order().indexOf(i) == k) {
                return load;
            }
        }
        return -3;
    }

    private int slowNeeds(int i, int j) {
        if (!is(i) || !is(j) || i == j) {
            return -1;
        }
        if (m.ahead(i, j)) {
            return 0;
        }
        if (m.asked(i) == 0) {
            return -2;
        }
        for (int load = m.least(i); load <= 40; load++) {
            SlowMeet c = m.copy();
            c.tries.add(new SlowMeet.Try(i, m.lift, m.round, load, true));
            if (c.ahead(i, j)) {
                return load;
            }
        }
        return -3;
    }

    private void askPlan(String name, int kind) {
        int i = drawLifter();
        int j = drawLifter();
        switch (kind) {
            case 8:
                CHECKS.due(name + "mass(" + i + ")", x.mass(i), is(i) ? m.planned(i, m.mass()) : -1);
                break;
            case 9:
            case 10:
                int w = near(0, 121);
                CHECKS.due(name + "chance(" + i + ", " + w + ")", x.chance(i, w), is(i) && in(w, 0, 121) ? m.chance(i, w) : -1);
                break;
            case 11:
                likeliest(name, i);
                break;
            case 12:
                CHECKS.due(name + "beats(" + i + ", " + j + ")", x.beats(i, j),
                    is(i) && is(j) && i != j ? m.planned(i, m.beat(i, j)) : -1);
                break;
            case 13:
                CHECKS.due(name + "wins(" + i + ")", x.wins(i), is(i) ? m.planned(i, m.win(i)) : -1);
                if (is(i)) {
                    long[] all = new long[m.men.size()];
                    for (int k = 0; k < all.length; k++) {
                        all[k] = m.planned(k, m.win(k));
                    }
                    row(all);
                }
                break;
            case 14:
                CHECKS.due(name + "bombs(" + i + ")", x.bombs(i), is(i) ? 1000000 - m.chance(i, 1) : -1);
                if (is(i)) {
                    SlowMeet.Man man = m.men.get(i);
                    row(allFail(man, 0, man.open[0], man.again[0]), allFail(man, 1, man.open[1], man.again[1]),
                        allFail(man, 2, man.open[2], man.again[2]));
                }
                break;
            default:
                opener(name, i);
                break;
        }
    }

    private void likeliest(String name, int i) {
        if (!is(i)) {
            CHECKS.due(name + "likeliest(" + i + ")", x.likeliest(i), -1);
            return;
        }
        int likely = 0;
        long most = -1;
        for (int w = 0; w <= 120; w++) {
            long just = m.chance(i, w) - m.chance(i, w + 1);
            if (just > most) {
                most = just;
                likely = w;
            }
        }
        CHECKS.due(name + "likeliest(" + i + ")", x.likeliest(i), likely);
        row(most, m.chance(i, 1));
    }

    private long allFail(SlowMeet.Man man, int lift, int load, int again) {
        long p = 1000000;
        for (int f = 0; f < 3; f++) {
            if (load + f * again <= 40) {
                p = p * (1000 - man.odds(lift, load + f * again, f * m.tire)) / 1000;
            }
        }
        return p;
    }

    private void opener(String name, int i) {
        int lift = near(0, 2);
        int p = random.nextBoolean() ? near(0, 1000000) : near(0, 50000);
        int due = -2;
        if (!is(i) || !in(lift, 0, 2) || !in(p, 0, 1000000)) {
            due = -1;
        } else {
            for (int load = 1; load <= 40; load++) {
                if (allFail(m.men.get(i), lift, load, 0) <= p) {
                    due = load;
                }
            }
        }
        CHECKS.due(name + "opener(" + i + ", " + lift + ", " + p + ")", x.opener(i, lift, p), due);
    }

    private void askFree(String name, int kind) {
        int i = drawLifter();
        int j = drawLifter();
        switch (kind) {
            case 16:
                freeCall(name + "heavy(" + i + ")", x.heavy(i), i, is(i) ? m.mass() : null);
                break;
            case 17:
                int w = near(0, 121);
                freeCall(name + "reach(" + i + ", " + w + ")", x.reach(i, w), i, is(i) && in(w, 0, 121) ? v -> v >= w ? 1000000 : 0 : null);
                break;
            case 18:
                aim(name, i);
                break;
            case 19:
                freeCall(name + "against(" + i + ", " + j + ")", x.against(i, j), i, is(i) && is(j) && i != j ? m.beat(i, j) : null);
                break;
            case 20:
                freeCall(name + "gold(" + i + ")", x.gold(i), i, is(i) ? m.win(i) : null);
                break;
            default:
                int aim = near(0, 1);
                boolean good = random.nextBoolean();
                String call = name + "line(" + i + ", " + aim + ", " + good + ")";
                if (!is(i) || !in(aim, 0, 1)) {
                    CHECKS.due(call, x.line(i, aim, good), -1);
                } else {
                    List<Long> loads = m.line(i, aim == 0 ? m.mass() : m.win(i), good);
                    CHECKS.due(call, x.line(i, aim, good), loads.size());
                    row(toRow(loads));
                }
                break;
        }
    }

    private void freeCall(String call, int got, int i, SlowMeet.Worth worth) {
        if (worth == null) {
            CHECKS.due(call, got, -1);
            return;
        }
        long[] due = m.freely(i, worth);
        CHECKS.due(call, got, due[0]);
        row(due[1], m.planned(i, worth));
    }

    private void aim(String name, int i) {
        int p = random.nextBoolean() ? near(1, 1000000) : near(1, 20);
        String call = name + "aim(" + i + ", " + p + ")";
        if (!is(i) || !in(p, 1, 1000000)) {
            CHECKS.due(call, x.aim(i, p), -1);
            return;
        }
        // the slow meet looks at a few w around the answer alone, from the beginning at least
        int got = x.aim(i, p);
        long value = m.freely(i, v -> v >= got ? 1000000 : 0)[0];
        CHECKS.due(call + " reaches p", value >= p, true);
        if (got < 120) {
            CHECKS.due(call + " could be more", m.freely(i, v -> v >= got + 1 ? 1000000 : 0)[0] >= p, false);
        }
        row(value);
    }

    private void fight(String name) {
        int a = drawLifter();
        int b = drawLifter();
        boolean real = random.nextBoolean();
        int cx = near(0, 2);
        int cy = near(0, 2);
        String call = name + (real ? "duel(" + a + ", " + b + ")" : "bluff(" + a + ", " + b + ", " + cx + ", " + cy + ")");
        int got = real ? x.duel(a, b) : x.bluff(a, b, cx, cy);
        if (!is(a) || !is(b) || a == b || !real && (!in(cx, 0, 2) || !in(cy, 0, 2))) {
            CHECKS.due(call, got, -1);
        } else if (m.lift != 2 || m.round != 2) {
            CHECKS.due(call, got, -2);
        } else if (!m.waits(a) || !m.waits(b)) {
            CHECKS.due(call, got, -3);
        } else {
            SlowMeet.DuelThought thought = m.new DuelThought(a, b);
            int askA = m.asked(a);
            int askB = m.asked(b);
            SlowMeet.Bout bout = new SlowMeet.Bout(askA, askB, real ? m.changes(a) : cx, real ? m.changes(b) : cy, -1, -1);
            long[] due = thought.at(bout);
            long who = thought.isA(bout) ? a : b;
            CHECKS.due(call, got, due[0]);
            if (real) {
                row(who, due[1], thought.at(new SlowMeet.Bout(askA, askB, 0, 0, -1, -1))[0]);
            } else {
                row(who, due[1]);
            }
        }
    }

    private void often(String name) {
        int i = drawLifter();
        int n = near(1, 50);
        int seed = random.nextInt();
        String call = name + "often(" + i + ", " + n + ", " + seed + ")";
        if (!is(i) || !in(n, 1, 50)) {
            CHECKS.due(call, x.often(i, n, seed), -1);
            return;
        }
        int r = seed;
        int first = 0;
        int outs = 0;
        int totals = 0;
        for (int k = 0; k < n; k++) {
            SlowMeet c = m.copy();
            r = c.draws(r);
            outs += c.out(i) ? 1 : 0;
            first += !c.out(i) && c.places().get(0) == i ? 1 : 0;
            totals += c.sum(i);
        }
        CHECKS.due(call, x.often(i, n, seed), first);
        row(outs, totals);
    }

    // ---- what stands behind each call

    private void stands(String name) {
        int bits = 0;
        int goods = 0;
        for (int i = 0; i < m.men.size(); i++) {
            bits |= m.out(i) ? 1 << i : 0;
        }
        for (SlowMeet.Try t : m.tries) {
            goods += t.good() ? 1 : 0;
        }
        long[] counts = {m.men.size(), m.lift, m.round, m.bar(), m.tries.size(), goods, m.tire, m.row.length, 0, bits, -1};
        for (int what = 0; what < counts.length; what++) {
            CHECKS.due(name + "count(" + what + ")", x.count(what), counts[what]);
        }
        CHECKS.row(name + "ROW", x, m.row);
        for (int i = 0; i < m.men.size(); i++) {
            SlowMeet.Man man = m.men.get(i);
            for (int l = 0; l < 3; l++) {
                long[] of = {man.body, man.lot, man.open[l], man.more[l], man.again[l], m.best(i, l), m.asked(i), m.least(i),
                    m.changes(i), m.waits(i) ? 1 : 0, m.out(i) ? 1 : 0, m.sum(i), -1};
                for (int what = 0; what < of.length; what++) {
                    CHECKS.due(name + "lifter(" + i + ", " + l + ", " + what + ")", x.lifter(i, l, what), of[what]);
                }
            }
        }
    }
}
