import java.util.Arrays;
import java.util.NoSuchElementException;

/** A meet of three lifts: who is called, what comes of plans, and which loads would be best. */
public final class NextLoad {
    public static final int NONE = -1;

    private static final int LIFTERS = 6;
    private static final int LIFTS = 3;
    private static final int ROUNDS = 3;
    private static final int HEAVIEST = 40;
    private static final int MOST_TOTAL = 120;
    /** An AIM is told by sums; REACH of all w at once is told by sums moved up by as much as MOST_TOTAL + 1. */
    private static final int SUMS = 2 * MOST_TOTAL + 2;
    private static final int MOST_TRIES = LIFTERS * LIFTS * ROUNDS;
    private static final int MOST_SIGNS = 240;
    private static final int SURE = 1000000;
    private static final int NOT_NOW = -2;
    private static final int NO_WAY = -3;
    private static final int NOT_SO = -4;
    private static final int BAD_SIGN = -21;

    private final Reader reader;
    private final Lifter[] lifters;
    private final Meet meet;
    private final Meet drawn;
    private final Now now;
    private final Aim goal;
    private final Plan plan;
    private final int[][] chances;
    private final long[] numbers;
    private int told;
    /** Made when first needed: most objects never look back from the end, or duel. */
    private Free free;
    private Duel pair;

    public NextLoad() {
        reader = new Reader();
        // one more than can enter: the place into which a text is read before it counts
        lifters = new Lifter[LIFTERS + 1];
        for (int i = 0; i < lifters.length; i++) {
            lifters[i] = new Lifter();
        }
        meet = new Meet(lifters);
        drawn = new Meet(lifters);
        now = new Now();
        goal = new Aim();
        plan = new Plan();
        chances = new int[LIFTERS][MOST_TOTAL + 2];
        numbers = new long[LIFTS * ROUNDS];
        told = 0;
        free = null;
        pair = null;
    }

    // ---- lifters

    public int sign(int v) {
        return reader.append(v) ? reader.length : NONE;
    }

    public boolean end(int n) {
        return reader.shorten(n);
    }

    public int enters() {
        int bad = reader.readLifter(lifters, meet.size);
        reader.shorten(0);
        if (bad >= 0) {
            return BAD_SIGN - bad;
        }
        if (meet.size >= LIFTERS) {
            return NOT_NOW;
        }
        meet.size++;
        meet.open();
        return meet.size - 1;
    }

    public int leaves() {
        if (meet.size == 0) {
            return NOT_NOW;
        }
        meet.size--;
        meet.open();
        return meet.size;
    }

    public int plans(int lifter, int lift, int what, int v) {
        if (!isLifter(lifter) || !isLift(lift) || !isPlan(what, v)) {
            return NONE;
        }
        int[] planned = lifters[lifter].planned;
        int was = planned[lift * 3 + what];
        planned[lift * 3 + what] = v;
        meet.open();
        return was;
    }

    public int tires(int e) {
        if (e < 0 || e > 300) {
            return NONE;
        }
        int was = meet.tire;
        meet.tire = e;
        return was;
    }

    public int begins() {
        meet.open();
        return meet.size;
    }

    public int odds(int lifter, int lift, int load, int f) {
        if (!isLifter(lifter) || !isLift(lift) || !isLoad(load) || f < 0 || f > 2) {
            return NONE;
        }
        return lifters[lifter].oddsOf(lift, load, f * meet.tire);
    }

    public int lifter(int lifter, int lift, int what) {
        if (!isLifter(lifter) || !isLift(lift)) {
            return NONE;
        }
        Lifter one = lifters[lifter];
        switch (what) {
            case 0: return one.body;
            case 1: return one.lot;
            case 2: return one.planned[lift * 3];
            case 3: return one.planned[lift * 3 + 1];
            case 4: return one.planned[lift * 3 + 2];
            case 5: return meet.best[lifter * LIFTS + lift];
            case 6: return meet.asked[lifter];
            case 7: return meet.leastOf(lifter);
            case 8: return meet.changes[lifter];
            case 9: return meet.waits(lifter) ? 1 : 0;
            case 10: return meet.out[lifter] ? 1 : 0;
            case 11: return meet.sumOf(lifter);
            default: return NONE;
        }
    }

    // ---- the meet

    public int called() {
        int who = meet.next();
        if (who < 0) {
            return NOT_NOW;
        }
        tellTwo(meet.asked[who], meet.oddsNow(who));
        return who;
    }

    public int order() {
        told = 0;
        for (int i = 0; i < meet.size; i++) {
            if (meet.waits(i)) {
                numbers[meet.sooner(i, meet.asked[i])] = i;
                told++;
            }
        }
        return told;
    }

    public int asks(int lifter, int load) {
        if (!isLifter(lifter) || !isLoad(load)) {
            return NONE;
        }
        if (!meet.waits(lifter)) {
            return NOT_NOW;
        }
        if (meet.changes[lifter] <= 0) {
            return NO_WAY;
        }
        if (load < meet.leastOf(lifter) || load == meet.asked[lifter]) {
            return NOT_SO;
        }
        meet.asked[lifter] = load;
        meet.changes[lifter]--;
        return meet.changes[lifter];
    }

    public int tries(boolean good) {
        int who = meet.next();
        if (who < 0) {
            return NOT_NOW;
        }
        int load = meet.asked[who];
        meet.take(who, good);
        tellTwo(load, meet.asked[who]);
        meet.goOn();
        return who;
    }

    public int tried(int k, int what) {
        if (k < 0 || k >= meet.logged || what < 0 || what > 3) {
            return NONE;
        }
        return meet.log[k * 4 + what];
    }

    public int place(int lifter) {
        if (!isLifter(lifter)) {
            return NONE;
        }
        tellPlaces();
        return meet.placeOf(lifter);
    }

    public int slot(int lifter, int k) {
        if (!isLifter(lifter) || k < 0) {
            return NONE;
        }
        if (!meet.waits(lifter)) {
            return NOT_NOW;
        }
        for (int load = meet.leastOf(lifter); load <= HEAVIEST; load++) {
            if (meet.sooner(lifter, load) == k) {
                return load;
            }
        }
        return NO_WAY;
    }

    public int needs(int lifter, int other) {
        if (!isLifter(lifter) || !isLifter(other) || lifter == other) {
            return NONE;
        }
        if (meet.isAhead(lifter, other)) {
            return 0;
        }
        if (meet.asked[lifter] == 0) {
            return NOT_NOW;
        }
        for (int load = meet.leastOf(lifter); load <= HEAVIEST; load++) {
            if (meet.wouldLead(lifter, load, other)) {
                return load;
            }
        }
        return NO_WAY;
    }

    // ---- what comes of plans

    public int mass(int lifter) {
        if (!isLifter(lifter)) {
            return NONE;
        }
        goal.beMass();
        return byPlan(lifter);
    }

    public int chance(int lifter, int w) {
        if (!isLifter(lifter) || !isAimed(w)) {
            return NONE;
        }
        goal.beReach(w);
        return byPlan(lifter);
    }

    public int likeliest(int lifter) {
        if (!isLifter(lifter)) {
            return NONE;
        }
        reckonChances(lifter);
        int[] chance = chances[lifter];
        int likely = 0;
        for (int w = 1; w <= MOST_TOTAL; w++) {
            if (chance[w] - chance[w + 1] > chance[likely] - chance[likely + 1]) {
                likely = w;
            }
        }
        tellTwo(chance[likely] - chance[likely + 1], chance[1]);
        return likely;
    }

    public int beats(int lifter, int other) {
        if (!isLifter(lifter) || !isLifter(other) || lifter == other) {
            return NONE;
        }
        aimToBeat(lifter, other);
        return byPlan(lifter);
    }

    public int wins(int lifter) {
        if (!isLifter(lifter)) {
            return NONE;
        }
        for (int i = 0; i < meet.size; i++) {
            reckonChances(i);
        }
        for (int i = 0; i < meet.size; i++) {
            aimAheadOfAll(i);
            numbers[i] = byPlan(i);
        }
        told = meet.size;
        return (int) numbers[lifter];
    }

    public int bombs(int lifter) {
        if (!isLifter(lifter)) {
            return NONE;
        }
        goal.beReach(1);
        int out = SURE - byPlan(lifter);
        int[] planned = lifters[lifter].planned;
        for (int lift = 0; lift < LIFTS; lift++) {
            numbers[lift] = allFail(lifter, lift, planned[lift * 3], planned[lift * 3 + 2]);
        }
        told = LIFTS;
        return out;
    }

    public int opener(int lifter, int lift, int p) {
        if (!isLifter(lifter) || !isLift(lift) || p < 0 || p > SURE) {
            return NONE;
        }
        for (int load = HEAVIEST; load >= 1; load--) {
            if (allFail(lifter, lift, load, 0) <= p) {
                return load;
            }
        }
        return NOT_NOW;
    }

    // ---- the best loads, looked back from the end

    public int heavy(int lifter) {
        if (!isLifter(lifter)) {
            return NONE;
        }
        goal.beMass();
        return byChoice(lifter);
    }

    public int reach(int lifter, int w) {
        if (!isLifter(lifter) || !isAimed(w)) {
            return NONE;
        }
        goal.beReach(w);
        return byChoice(lifter);
    }

    public int aim(int lifter, int p) {
        if (!isLifter(lifter) || p < 1 || p > SURE) {
            return NONE;
        }
        Free thought = thinkFreely(lifter, true);
        int most = 0;
        int value = SURE;
        // VALUE never grows with w, so w is found by halving
        for (int step = 64; step > 0; step /= 2) {
            int w = most + step;
            if (w <= MOST_TOTAL) {
                now.look(meet, lifter);
                now.sum += MOST_TOTAL + 1 - w;
                int found = thought.valueFrom(now);
                if (found >= p) {
                    most = w;
                    value = found;
                }
            }
        }
        numbers[0] = value;
        told = 1;
        return most;
    }

    public int against(int lifter, int other) {
        if (!isLifter(lifter) || !isLifter(other) || lifter == other) {
            return NONE;
        }
        aimToBeat(lifter, other);
        return byChoice(lifter);
    }

    public int gold(int lifter) {
        if (!isLifter(lifter)) {
            return NONE;
        }
        aimToWin(lifter);
        return byChoice(lifter);
    }

    public int line(int lifter, int aim, boolean good) {
        if (!isLifter(lifter) || aim < 0 || aim > 1) {
            return NONE;
        }
        if (aim == 0) {
            goal.beMass();
        } else {
            aimToWin(lifter);
        }
        Free thought = thinkFreely(lifter, false);
        now.look(meet, lifter);
        told = 0;
        for (int i = 0; i < numbers.length && now.findTry(); i++) {
            thought.valueFrom(now);
            numbers[i] = thought.load;
            told++;
            now.take(thought.load, good);
        }
        return told;
    }

    // ---- the duel

    public int duel(int a, int b) {
        if (!isLifter(a) || !isLifter(b) || a == b) {
            return NONE;
        }
        return fight(a, b, meet.changes[a], meet.changes[b], 3);
    }

    public int bluff(int a, int b, int x, int y) {
        if (!isLifter(a) || !isLifter(b) || a == b || x < 0 || x > 2 || y < 0 || y > 2) {
            return NONE;
        }
        return fight(a, b, x, y, 2);
    }

    // ---- meets drawn

    public int plays(int seed) {
        if (meet.next() < 0) {
            return NOT_NOW;
        }
        int before = meet.logged;
        meet.drawOn(seed);
        tellPlaces();
        return meet.logged - before;
    }

    public int often(int lifter, int n, int seed) {
        if (!isLifter(lifter) || n < 1 || n > 50) {
            return NONE;
        }
        int r = seed;
        int first = 0;
        int outs = 0;
        int totals = 0;
        for (int i = 0; i < n; i++) {
            drawn.copy(meet);
            r = drawn.drawOn(r);
            if (drawn.out[lifter]) {
                outs++;
            } else if (drawn.placeOf(lifter) == 0) {
                first++;
            }
            totals += drawn.sumOf(lifter);
        }
        tellTwo(outs, totals);
        return first;
    }

    public int count(int what) {
        switch (what) {
            case 0: return meet.size;
            case 1: return meet.lift;
            case 2: return meet.round;
            case 3: return meet.bar;
            case 4: return meet.logged;
            case 5: return meet.goods;
            case 6: return meet.tire;
            case 7: return told;
            case 8: return reader.length;
            case 9: return meet.outBits();
            default: return NONE;
        }
    }

    public long row(int i) throws NoSuchElementException {
        if (i < 0 || i >= told || i >= numbers.length) {
            throw new NoSuchElementException();
        }
        return numbers[i];
    }

    // ---- what the calls share

    private boolean isLifter(int lifter) {
        return lifter >= 0 && lifter < meet.size;
    }

    private static boolean isLift(int lift) {
        return lift >= 0 && lift < LIFTS;
    }

    private static boolean isLoad(int load) {
        return load >= 1 && load <= HEAVIEST;
    }

    private static boolean isAimed(int w) {
        return w >= 0 && w <= MOST_TOTAL + 1;
    }

    private static boolean isPlan(int what, int v) {
        switch (what) {
            case 0: return isLoad(v);
            case 1: return v >= 1 && v <= 9;
            case 2: return v >= 0 && v <= 9;
            default: return false;
        }
    }

    private void tellTwo(int first, int second) {
        numbers[0] = first;
        numbers[1] = second;
        told = 2;
    }

    private void tellPlaces() {
        for (int i = 0; i < meet.size; i++) {
            numbers[meet.placeOf(i)] = i;
        }
        told = meet.size;
    }

    /** VALUE of a TRY; all of it fits an int, for VALUES go up to SURE alone. */
    private static int mix(int odds, int good, int failed) {
        return (odds * good + (1000 - odds) * failed) / 1000;
    }

    private int allFail(int lifter, int lift, int load, int again) {
        int left = SURE;
        int tried = load;
        for (int f = 0; f < ROUNDS && tried <= HEAVIEST; f++) {
            left = left * (1000 - lifters[lifter].oddsOf(lift, tried, f * meet.tire)) / 1000;
            tried += again;
        }
        return left;
    }

    private int byPlan(int lifter) {
        plan.prepare(lifters[lifter], meet.tire, goal);
        now.look(meet, lifter);
        return plan.valueFrom(now);
    }

    /** CHANCE of each w; those of one LIFTER share what they have in common, sums being moved by w. */
    private void reckonChances(int lifter) {
        goal.beStep();
        plan.prepare(lifters[lifter], meet.tire, goal);
        now.look(meet, lifter);
        int sum = now.sum;
        int[] chance = chances[lifter];
        chance[0] = SURE;
        for (int w = 1; w < chance.length; w++) {
            now.sum = sum + MOST_TOTAL + 1 - w;
            chance[w] = plan.valueFrom(now);
        }
    }

    private void aimToBeat(int lifter, int other) {
        reckonChances(other);
        goal.beSure();
        goal.timesBeat(lifters[lifter].leadsLike(lifters[other]), chances[other]);
    }

    private void aimToWin(int lifter) {
        for (int i = 0; i < meet.size; i++) {
            if (i != lifter) {
                reckonChances(i);
            }
        }
        aimAheadOfAll(lifter);
    }

    /** Wants the CHANCES of all others reckoned. */
    private void aimAheadOfAll(int lifter) {
        goal.beSure();
        for (int i = 0; i < meet.size; i++) {
            if (i != lifter) {
                goal.timesBeat(lifters[lifter].leadsLike(lifters[i]), chances[i]);
            }
        }
    }

    private Free thinkFreely(int lifter, boolean allReaches) {
        if (free == null) {
            free = new Free();
        }
        if (allReaches) {
            goal.beStep();
        }
        free.prepare(lifters[lifter], meet.tire, goal);
        return free;
    }

    private int byChoice(int lifter) {
        Free thought = thinkFreely(lifter, false);
        now.look(meet, lifter);
        now.findTry();
        int value = thought.valueFrom(now);
        int load = thought.load;
        tellTwo(load, byPlan(lifter));
        return value;
    }

    private int fight(int a, int b, int x, int y, int tells) {
        if (meet.lift != 2 || meet.round != 2) {
            return NOT_NOW;
        }
        if (!meet.waits(a) || !meet.waits(b)) {
            return NO_WAY;
        }
        if (pair == null) {
            pair = new Duel();
        }
        pair.meetUp(meet, a, b);
        int value = pair.solve(x, y);
        numbers[0] = pair.firstCalled() ? a : b;
        numbers[1] = pair.chosen(x, y);
        numbers[2] = pair.valueAt(0, 0);
        told = tells;
        return value;
    }

    /** What a LIFTER is and plans. */
    private static final class Lifter {
        int body;
        int lot;
        /** ODDS of each LOAD of each LIFT, nobody being tired. */
        final int[] fresh = new int[LIFTS * (HEAVIEST + 1)];
        /** OPEN, MORE, AGAIN of each LIFT. */
        final int[] planned = new int[LIFTS * 3];

        int oddsOf(int lift, int load, int tired) {
            if (lift < 0 || lift >= LIFTS || load < 1 || load > HEAVIEST) {
                return 0;
            }
            return Math.max(0, fresh[lift * (HEAVIEST + 1) + load] - tired);
        }

        boolean leadsLike(Lifter other) {
            return body != other.body ? body < other.body : lot < other.lot;
        }

        void clearTable(int lift) {
            for (int load = 0; load <= HEAVIEST; load++) {
                fresh[lift * (HEAVIEST + 1) + load] = 0;
            }
        }

        /** The ODDS behind one POINT up to the next one. */
        void spread(int lift, int load, int odds, int nextLoad, int nextOdds) {
            int width = nextLoad - load;
            if (width <= 0) {
                return;
            }
            for (int x = load + 1; x <= nextLoad && x <= HEAVIEST; x++) {
                fresh[lift * (HEAVIEST + 1) + x] = odds - (odds - nextOdds) * (x - load) / width;
            }
        }
    }

    /** THE TEXT, and how a LIFTER is read from it. */
    private static final class Reader {
        final char[] signs = new char[MOST_SIGNS];
        int length = 0;
        private int at = 0;
        /** The first sign that can't stand where it does; NONE as long as all can. */
        private int bad = NONE;

        boolean append(int v) {
            if (length + 4 > signs.length) {
                return false;
            }
            for (int shift = 24; shift >= 0; shift -= 8) {
                signs[length] = (char) ((v >>> shift) & 255);
                length++;
            }
            return true;
        }

        boolean shorten(int n) {
            if (n < 0 || n > length) {
                return false;
            }
            length = n;
            return true;
        }

        /** Reads into the place behind the last LIFTER: the bad sign's place, or NONE. */
        int readLifter(Lifter[] lifters, int size) {
            at = 0;
            bad = NONE;
            if (size < 0 || size >= lifters.length) {
                return 0;
            }
            Lifter one = lifters[size];
            one.body = readNumber(1, 200);
            readSign(',');
            one.lot = readNumber(0, 99);
            for (int i = 0; i < size && bad < 0; i++) {
                if (lifters[i].lot == one.lot) {
                    bad = at - 1;
                }
            }
            for (int lift = 0; lift < LIFTS && bad < 0; lift++) {
                readSign(';');
                readTable(one, lift);
                readSign('/');
                one.planned[lift * 3] = readNumber(1, HEAVIEST);
                readSign('+');
                one.planned[lift * 3 + 1] = readNumber(1, 9);
                readSign('+');
                one.planned[lift * 3 + 2] = readNumber(0, 9);
            }
            if (bad < 0 && at < length) {
                bad = at;
            }
            return bad;
        }

        private void readTable(Lifter one, int lift) {
            one.clearTable(lift);
            int load = 0;
            int odds = 1000;
            for (int point = 0; point < 6 && bad < 0; point++) {
                if (point > 0) {
                    if (at >= length || signs[at] != ',') {
                        return;
                    }
                    at++;
                }
                int nextLoad = readNumber(load + 1, HEAVIEST);
                readSign('=');
                int nextOdds = readNumber(0, odds);
                if (bad >= 0) {
                    return;
                }
                // up to the first POINT its ODDS hold
                one.spread(lift, load, point == 0 ? nextOdds : odds, nextLoad, nextOdds);
                load = nextLoad;
                odds = nextOdds;
            }
        }

        private void readSign(char sign) {
            if (bad >= 0) {
                return;
            }
            if (at >= length || signs[at] != sign) {
                bad = at;
                return;
            }
            at++;
        }

        private int readNumber(int least, int most) {
            if (bad >= 0) {
                return 0;
            }
            int start = at;
            int number = 0;
            // a nought ahead is a whole number: what stands behind it belongs to no number
            while (at < length && at < start + 4 && isDigit(signs[at]) && !(at == start + 1 && number == 0)) {
                number = number * 10 + signs[at] - '0';
                at++;
            }
            if (at == start) {
                bad = at;
            } else if (number < least || number > most) {
                bad = at - 1;
            }
            return number;
        }

        private static boolean isDigit(char sign) {
            return sign >= '0' && sign <= '9';
        }
    }

    /** THE MEET as it stands. */
    private static final class Meet {
        final Lifter[] lifters;
        int size = 0;
        int tire = 0;
        int lift = 0;
        int round = 0;
        int bar = 0;
        final int[] asked = new int[LIFTERS];
        final boolean[] done = new boolean[LIFTERS];
        final int[] changes = new int[LIFTERS];
        final boolean[] out = new boolean[LIFTERS];
        final int[] best = new int[LIFTERS * LIFTS];
        /** TRIES of this LIFT that FAILED. */
        final int[] failed = new int[LIFTERS];
        /** LEAST without BAR. */
        final int[] least = new int[LIFTERS];
        final int[] log = new int[MOST_TRIES * 4];
        int logged = 0;
        int goods = 0;

        Meet(Lifter[] lifters) {
            this.lifters = lifters;
        }

        void open() {
            lift = 0;
            logged = 0;
            goods = 0;
            for (int i = 0; i < LIFTERS; i++) {
                out[i] = false;
            }
            for (int i = 0; i < best.length; i++) {
                best[i] = 0;
            }
            openLift();
        }

        private void openLift() {
            for (int i = 0; i < LIFTERS; i++) {
                boolean lifts = i < size && lift < LIFTS && !out[i];
                asked[i] = lifts ? lifters[i].planned[lift * 3] : 0;
                failed[i] = 0;
                least[i] = 1;
            }
            openRound(0);
        }

        private void openRound(int number) {
            round = number;
            bar = 0;
            int each = lift >= LIFTS ? 0 : round == 0 ? 1 : lift == 2 && round == 2 ? 2 : 0;
            for (int i = 0; i < LIFTERS; i++) {
                done[i] = false;
                changes[i] = each;
            }
        }

        private void closeLift() {
            for (int i = 0; i < size; i++) {
                if (best[i * LIFTS + lift] == 0) {
                    out[i] = true;
                }
            }
            lift++;
            openLift();
        }

        /** Rounds in which nobody can be CALLED are passed. */
        void goOn() {
            for (int i = 0; i < LIFTS * ROUNDS && size > 0 && lift < LIFTS && next() < 0; i++) {
                if (round < ROUNDS - 1) {
                    openRound(round + 1);
                } else {
                    closeLift();
                }
            }
        }

        boolean waits(int i) {
            return asked[i] > 0 && !done[i];
        }

        /** Who is CALLED, or NONE. */
        int next() {
            for (int i = 0; i < size; i++) {
                if (waits(i) && sooner(i, asked[i]) == 0) {
                    return i;
                }
            }
            return NONE;
        }

        /** How many others are CALLED ahead of a LIFTER that asks for a LOAD. */
        int sooner(int lifter, int load) {
            int ahead = 0;
            for (int i = 0; i < size; i++) {
                if (i != lifter && waits(i)) {
                    boolean first = asked[i] != load ? asked[i] < load : lifters[i].lot < lifters[lifter].lot;
                    if (first) {
                        ahead++;
                    }
                }
            }
            return ahead;
        }

        int leastOf(int i) {
            if (asked[i] == 0) {
                return 0;
            }
            return done[i] ? least[i] : Math.max(least[i], bar);
        }

        int oddsNow(int i) {
            return lifters[i].oddsOf(lift, asked[i], failed[i] * tire);
        }

        /** The TRY of who is CALLED; goOn() is due behind it. */
        void take(int who, boolean good) {
            if (lift >= LIFTS || logged >= MOST_TRIES) {
                return;
            }
            int load = asked[who];
            int[] planned = lifters[who].planned;
            log[logged * 4] = who;
            log[logged * 4 + 1] = lift;
            log[logged * 4 + 2] = load;
            log[logged * 4 + 3] = good ? 1 : 0;
            logged++;
            done[who] = true;
            bar = Math.max(bar, load);
            int then = load;
            if (good) {
                goods++;
                best[who * LIFTS + lift] = Math.max(best[who * LIFTS + lift], load);
                least[who] = load + 1;
                then += planned[lift * 3 + 1];
            } else {
                failed[who]++;
                least[who] = load;
                then += planned[lift * 3 + 2];
            }
            asked[who] = round == ROUNDS - 1 || then > HEAVIEST ? 0 : then;
        }

        /** To the end by PLAN with draws from r: r behind them. */
        int drawOn(int r) {
            int random = r;
            for (int i = 0; i < MOST_TRIES; i++) {
                int who = next();
                if (who < 0) {
                    break;
                }
                random = random * 1103515245 + 12345;
                take(who, (random >>> 16) % 1000 < oddsNow(who));
                goOn();
            }
            return random;
        }

        int sumOf(int i) {
            if (out[i]) {
                return 0;
            }
            return best[i * LIFTS] + best[i * LIFTS + 1] + best[i * LIFTS + 2];
        }

        boolean isAhead(int i, int other) {
            if (out[i] != out[other]) {
                return out[other];
            }
            int sum = sumOf(i);
            int otherSum = sumOf(other);
            return sum != otherSum ? sum > otherSum : lifters[i].leadsLike(lifters[other]);
        }

        /** Whether a LIFTER with a TRY to come is AHEAD of another one that is not OUT, if it makes a LOAD. */
        boolean wouldLead(int i, int load, int other) {
            if (lift >= LIFTS) {
                return false;
            }
            int now = best[i * LIFTS + lift];
            int sum = sumOf(i) - now + Math.max(now, load);
            int otherSum = sumOf(other);
            return sum != otherSum ? sum > otherSum : lifters[i].leadsLike(lifters[other]);
        }

        int placeOf(int lifter) {
            int ahead = 0;
            for (int i = 0; i < size; i++) {
                if (i != lifter && isAhead(i, lifter)) {
                    ahead++;
                }
            }
            return ahead;
        }

        int outBits() {
            int bits = 0;
            for (int i = 0; i < size; i++) {
                if (out[i]) {
                    bits |= 1 << i;
                }
            }
            return bits;
        }

        void copy(Meet from) {
            size = from.size;
            tire = from.tire;
            lift = from.lift;
            round = from.round;
            bar = from.bar;
            logged = from.logged;
            goods = from.goods;
            for (int i = 0; i < LIFTERS; i++) {
                asked[i] = from.asked[i];
                done[i] = from.done[i];
                changes[i] = from.changes[i];
                out[i] = from.out[i];
                failed[i] = from.failed[i];
                least[i] = from.least[i];
            }
            for (int i = 0; i < best.length; i++) {
                best[i] = from.best[i];
            }
        }
    }

    /** Where one LIFTER stands in thought. */
    private static final class Now {
        boolean out;
        int lift;
        /** BESTS of the LIFTS ahead of this one. */
        int sum;
        int best;
        int failed;
        int asked;
        int least;
        /** TRIES to come in this LIFT, at most. */
        int left;

        void look(Meet meet, int i) {
            out = meet.out[i];
            lift = meet.lift;
            best = lift < LIFTS ? meet.best[i * LIFTS + lift] : 0;
            sum = meet.sumOf(i) - (out ? 0 : best);
            failed = meet.failed[i];
            asked = meet.asked[i];
            least = meet.leastOf(i);
            left = asked == 0 ? 0 : ROUNDS - meet.round - (meet.done[i] ? 1 : 0);
        }

        boolean hasTry() {
            return !out && lift < LIFTS && left > 0 && least <= HEAVIEST;
        }

        /** Goes on through LIFTS without a TRY to come: whether there is one. */
        boolean findTry() {
            for (int i = 0; i < LIFTS && !out && lift < LIFTS && !hasTry(); i++) {
                if (best == 0) {
                    out = true;
                } else {
                    sum += best;
                    lift++;
                    best = 0;
                    failed = 0;
                    least = 1;
                    left = ROUNDS;
                }
            }
            return hasTry();
        }

        void take(int load, boolean good) {
            left--;
            if (good) {
                best = load;
                least = load + 1;
            } else {
                failed++;
                least = load;
            }
        }
    }

    /** What a TOTAL is worth. */
    private static final class Aim {
        final int[] worth = new int[SUMS];
        /** What it is worth to be OUT. */
        int out = 0;

        void beMass() {
            for (int v = 0; v < worth.length; v++) {
                worth[v] = 1000 * v;
            }
            out = 0;
        }

        void beReach(int w) {
            for (int v = 0; v < worth.length; v++) {
                worth[v] = v >= w ? SURE : 0;
            }
            out = worth[0];
        }

        /** REACH of any w above 0, for sums that are moved up by MOST_TOTAL + 1 less w. */
        void beStep() {
            beReach(MOST_TOTAL + 1);
        }

        void beSure() {
            Arrays.fill(worth, SURE);
            worth[0] = 0;
            out = 0;
        }

        /** Times BEAT of one whose CHANCES are told; leads: AHEAD of that one with like sums. */
        void timesBeat(boolean leads, int[] chance) {
            int more = leads ? 1 : 0;
            for (int v = 1; v + more < chance.length && v <= MOST_TOTAL; v++) {
                worth[v] = (int) ((long) worth[v] * (SURE - chance[v + more]) / SURE);
            }
        }
    }

    /** VALUES by PLAN of one LIFTER. */
    private static final class Plan {
        private Lifter who = null;
        private int tire = 0;
        private Aim goal = null;
        /** VALUE at the beginning of LIFT 1, 2 by sum; below 0: not reckoned yet. */
        private final int[][] starts = new int[LIFTS][SUMS];

        void prepare(Lifter lifter, int tired, Aim aim) {
            who = lifter;
            tire = tired;
            goal = aim;
            for (int lift = 0; lift < LIFTS; lift++) {
                Arrays.fill(starts[lift], -1);
            }
        }

        int valueFrom(Now now) {
            if (who == null || goal == null) {
                return 0;
            }
            if (now.out) {
                return goal.out;
            }
            if (now.lift >= LIFTS) {
                return startOf(now.lift, now.sum);
            }
            return valueOfTry(now.lift, now.sum, now.asked, now.best, now.failed, now.left);
        }

        private int startOf(int lift, int sum) {
            if (sum < 0 || sum >= SUMS) {
                return 0;
            }
            if (lift >= LIFTS) {
                return goal.worth[sum];
            }
            if (starts[lift][sum] < 0) {
                starts[lift][sum] = valueOfTry(lift, sum, who.planned[lift * 3], 0, 0, ROUNDS);
            }
            return starts[lift][sum];
        }

        private int valueOfTry(int lift, int sum, int load, int best, int failed, int left) {
            if (left <= 0 || load < 1 || load > HEAVIEST) {
                return best == 0 ? goal.out : startOf(lift + 1, sum + best);
            }
            int good = valueOfTry(lift, sum, load + who.planned[lift * 3 + 1], Math.max(best, load), failed, left - 1);
            int not = valueOfTry(lift, sum, load + who.planned[lift * 3 + 2], best, failed + 1, left - 1);
            return mix(who.oddsOf(lift, load, failed * tire), good, not);
        }
    }

    /**
     * FREE VALUES of one LIFTER. Behind the heaviest LOAD with ODDS above 0 (its top) each LOAD is worth
     * what stands without it, so that only LOADS up to the top are looked at one by one.
     */
    private static final class Free {
        private static final int ROW = HEAVIEST + 2;
        /** The LOAD of the TRY of which the VALUE was asked last; 0: none. */
        int load = 0;
        private int out = 0;
        private final int[][] odds = new int[LIFTS * ROUNDS][ROW];
        private final int[] tops = new int[LIFTS];
        /** VALUE at the beginning of a LIFT by sum (of LIFT 3: what a TOTAL is worth); below 0: not reckoned yet. */
        private final int[][] starts = new int[LIFTS + 1][SUMS];
        /** The LIFT and sum of which the tables below tell. */
        private int lift = 0;
        private int sum = 0;
        /** One TRY left, none FAILED, by BEST (LEAST is just above it). */
        private final int[] oneFresh = new int[ROW];
        /** One TRY left, one FAILED, by BEST and LEAST. */
        private final int[] oneOnce = new int[ROW * ROW];
        /** One TRY left, two FAILED, by LEAST. */
        private final int[] oneTwice = new int[ROW];
        /** Two TRIES left, none FAILED, by BEST. */
        private final int[] twoFresh = new int[ROW];
        /** Two TRIES left, one FAILED, by LEAST. */
        private final int[] twoOnce = new int[ROW];

        void prepare(Lifter who, int tire, Aim goal) {
            out = goal.out;
            for (int l = 0; l < LIFTS; l++) {
                tops[l] = 0;
                for (int x = 1; x <= HEAVIEST; x++) {
                    for (int f = 0; f < ROUNDS; f++) {
                        odds[l * ROUNDS + f][x] = who.oddsOf(l, x, f * tire);
                    }
                    if (odds[l * ROUNDS][x] > 0) {
                        tops[l] = x;
                    }
                }
                Arrays.fill(starts[l], -1);
            }
            System.arraycopy(goal.worth, 0, starts[LIFTS], 0, SUMS);
        }

        /** VALUE from there on; load tells the LOAD of the TRY to come in that LIFT. */
        int valueFrom(Now now) {
            load = 0;
            if (now.out) {
                return out;
            }
            if (now.lift >= LIFTS) {
                return startOf(LIFTS, now.sum);
            }
            // reckoned ahead of the tables of this LIFT, as it uses them itself
            int ended = now.best == 0 ? out : startOf(now.lift + 1, now.sum + now.best);
            if (!now.hasTry()) {
                return ended;
            }
            fillTables(now.lift, now.sum);
            return choose(now.left, now.failed, now.best, now.least);
        }

        private int startOf(int l, int s) {
            if (l < 0 || l > LIFTS || s < 0 || s >= SUMS) {
                return 0;
            }
            if (l < LIFTS && starts[l][s] < 0) {
                fillTables(l, s);
                starts[l][s] = choose(ROUNDS, 0, 0, 1);
            }
            return starts[l][s];
        }

        private void fillTables(int l, int s) {
            for (int x = 1; x <= tops[l]; x++) {
                startOf(l + 1, s + x);
            }
            lift = l;
            sum = s;
            fillOne(tops[l], starts[l + 1]);
            fillTwo(tops[l], starts[l + 1]);
        }

        /** VALUES are compared ahead of their cut: the greatest one cut is the greatest of those that are cut. */
        private void fillOne(int top, int[] next) {
            int[] fresh = odds[lift * ROUNDS];
            int[] once = odds[lift * ROUNDS + 1];
            int[] twice = odds[lift * ROUNDS + 2];
            for (int b = 1; b <= top && sum + top < SUMS; b++) {
                int ended = next[sum + b];
                int most = atFirst(top, ended);
                int mostOnce = most;
                oneOnce[b * ROW + top + 1] = ended;
                for (int x = top; x > b; x--) {
                    int gain = next[sum + x] - ended;
                    most = Math.max(most, 1000 * ended + fresh[x] * gain);
                    mostOnce = Math.max(mostOnce, 1000 * ended + once[x] * gain);
                    oneOnce[b * ROW + x] = mostOnce / 1000;
                }
                oneFresh[b] = b < top ? most / 1000 : ended;
            }
            int mostTwice = atFirst(top, out);
            for (int x = top; x > 0 && sum + top < SUMS; x--) {
                mostTwice = Math.max(mostTwice, 1000 * out + twice[x] * (next[sum + x] - out));
                oneTwice[x] = mostTwice / 1000;
            }
        }

        private void fillTwo(int top, int[] next) {
            int[] fresh = odds[lift * ROUNDS];
            int[] once = odds[lift * ROUNDS + 1];
            for (int b = 1; b <= top && sum + top < SUMS; b++) {
                int most = atFirst(top, next[sum + b]);
                for (int x = top; x > b; x--) {
                    int not = oneOnce[b * ROW + x];
                    most = Math.max(most, 1000 * not + fresh[x] * (oneFresh[x] - not));
                }
                twoFresh[b] = b < top ? most / 1000 : next[sum + b];
            }
            int mostOnce = atFirst(top, out);
            for (int x = top; x > 0; x--) {
                int not = oneTwice[x];
                mostOnce = Math.max(mostOnce, 1000 * not + once[x] * (oneOnce[x * ROW + x + 1] - not));
                twoOnce[x] = mostOnce / 1000;
            }
        }

        /** What the LOADS above the top are worth (not cut yet), if there are such. */
        private static int atFirst(int top, int ended) {
            return top < HEAVIEST ? 1000 * ended : -1;
        }

        private int choose(int left, int failed, int best, int least) {
            int top = tops[lift];
            int ended = best == 0 ? out : endOf(best);
            load = Math.max(least, top + 1);
            int value = least > top || top < HEAVIEST ? ended : -1;
            for (int x = top; x >= least && x >= 1; x--) {
                int found = valueAt(left, failed, best, x);
                if (found >= value) {
                    value = found;
                    load = x;
                }
            }
            return value;
        }

        private int endOf(int best) {
            int total = sum + best;
            return total < 0 || total >= SUMS ? 0 : starts[lift + 1][total];
        }

        /** VALUE of a TRY at x, which is not above the top. */
        private int valueAt(int left, int failed, int best, int x) {
            if (failed < 0 || failed >= ROUNDS || best < 0 || best > HEAVIEST) {
                return 0;
            }
            int now = odds[lift * ROUNDS + failed][x];
            if (left <= 1) {
                return mix(now, endOf(x), best == 0 ? out : endOf(best));
            }
            if (left >= ROUNDS) {
                return mix(now, twoFresh[x], twoOnce[x]);
            }
            if (failed == 0) {
                return mix(now, oneFresh[x], oneOnce[best * ROW + x]);
            }
            return mix(now, oneOnce[x * ROW + x + 1], oneTwice[x]);
        }
    }

    /** DUEL of two LIFTERS, here called a and b. */
    private static final class Duel {
        private static final int ROW = HEAVIEST + 1;
        private static final int FIELD = ROW * ROW;
        private boolean leadsLike = false;
        private boolean soonerLike = false;
        private int askedA = 1;
        private int askedB = 1;
        private int sumA = 0;
        private int sumB = 0;
        /** TOTALS if the last TRY FAILS; 0: OUT. */
        private int keptA = 0;
        private int keptB = 0;
        private final int[] oddsA = new int[ROW];
        private final int[] oddsB = new int[ROW];
        /** a has tried (made a LOAD, or 0: FAILED), b asks for another: VALUE of b's TRY; least VALUE from there up. */
        private final int[] thenB = new int[FIELD];
        private final int[] freeB = new int[FIELD];
        private final int[] thenA = new int[FIELD];
        private final int[] freeA = new int[FIELD];
        /** By CHANGES of a, of b, what a and what b ASKED. */
        private final int[] values = new int[9 * FIELD];
        private final int[] raised = new int[ROW];

        void meetUp(Meet meet, int a, int b) {
            leadsLike = meet.lifters[a].leadsLike(meet.lifters[b]);
            soonerLike = meet.lifters[a].lot < meet.lifters[b].lot;
            askedA = meet.asked[a];
            askedB = meet.asked[b];
            sumA = meet.best[a * LIFTS] + meet.best[a * LIFTS + 1];
            sumB = meet.best[b * LIFTS] + meet.best[b * LIFTS + 1];
            int bestA = meet.best[a * LIFTS + 2];
            int bestB = meet.best[b * LIFTS + 2];
            keptA = bestA == 0 ? 0 : sumA + bestA;
            keptB = bestB == 0 ? 0 : sumB + bestB;
            for (int x = 1; x <= HEAVIEST; x++) {
                oddsA[x] = meet.lifters[a].oddsOf(2, x, meet.failed[a] * meet.tire);
                oddsB[x] = meet.lifters[b].oddsOf(2, x, meet.failed[b] * meet.tire);
            }
            fillSecond();
        }

        private void fillSecond() {
            for (int x = 0; x <= HEAVIEST; x++) {
                int totalA = x == 0 ? keptA : sumA + x;
                int totalB = x == 0 ? keptB : sumB + x;
                int least = SURE;
                int most = 0;
                for (int y = HEAVIEST; y >= 1; y--) {
                    int b = mix(oddsB[y], outcome(totalA, sumB + y), outcome(totalA, keptB));
                    int a = mix(oddsA[y], outcome(sumA + y, totalB), outcome(keptA, totalB));
                    least = Math.min(least, b);
                    most = Math.max(most, a);
                    thenB[x * ROW + y] = b;
                    freeB[x * ROW + y] = least;
                    thenA[x * ROW + y] = a;
                    freeA[x * ROW + y] = most;
                }
            }
        }

        private int outcome(int totalA, int totalB) {
            if (totalA == 0) {
                return 0;
            }
            if (totalA == totalB) {
                return leadsLike ? SURE : 0;
            }
            return totalA > totalB ? SURE : 0;
        }

        boolean firstCalled() {
            return isFirst(askedA, askedB);
        }

        private boolean isFirst(int a, int b) {
            return a != b ? a < b : soonerLike;
        }

        int solve(int x, int y) {
            for (int changesA = 0; changesA <= x && changesA < 3; changesA++) {
                for (int changesB = 0; changesB <= y && changesB < 3; changesB++) {
                    fillField(changesA, changesB);
                }
            }
            return valueAt(x, y);
        }

        int valueAt(int x, int y) {
            return values[fieldOf(x, y) + askedA * ROW + askedB];
        }

        private static int fieldOf(int x, int y) {
            boolean told = x >= 0 && x < 3 && y >= 0 && y < 3;
            return told ? (x * 3 + y) * FIELD : 0;
        }

        /** Goes down from the heaviest LOADS, so that the best of all greater ones is known at each. */
        private void fillField(int x, int y) {
            int field = fieldOf(x, y);
            int lessA = fieldOf(x - 1, y);
            int lessB = fieldOf(x, y - 1);
            Arrays.fill(raised, -1);
            for (int a = HEAVIEST; a >= askedA && a >= 1; a--) {
                int lowered = SURE + 1;
                for (int b = HEAVIEST; b >= askedB && b >= 1; b--) {
                    int at = a * ROW + b;
                    int value = valueOfTry(a, b, x, y);
                    if (isFirst(a, b)) {
                        value = Math.max(value, raised[b]);
                    } else {
                        value = Math.min(value, lowered);
                    }
                    values[field + at] = value;
                    if (x > 0) {
                        raised[b] = Math.max(raised[b], values[lessA + at]);
                    }
                    if (y > 0) {
                        lowered = Math.min(lowered, values[lessB + at]);
                    }
                }
            }
        }

        private int valueOfTry(int a, int b, int x, int y) {
            if (isFirst(a, b)) {
                int[] then = y > 0 ? freeB : thenB;
                return mix(oddsA[a], then[a * ROW + b], then[b]);
            }
            int[] then = x > 0 ? freeA : thenA;
            return mix(oddsB[b], then[b * ROW + a], then[a]);
        }

        /** What who is CALLED chooses: 0 for the TRY, else the LOAD. */
        int chosen(int x, int y) {
            int value = valueAt(x, y);
            if (value == valueOfTry(askedA, askedB, x, y)) {
                return 0;
            }
            boolean first = firstCalled();
            int less = first ? fieldOf(x - 1, y) : fieldOf(x, y - 1);
            for (int load = (first ? askedA : askedB) + 1; load <= HEAVIEST; load++) {
                int at = first ? load * ROW + askedB : askedA * ROW + load;
                if (values[less + at] == value) {
                    return load;
                }
            }
            return 0;
        }
    }
}
