import java.util.function.Supplier;

/** Promises 34 to 37 at their edges: meets drawn, numbers counted, the ROW. */
public final class EdgeDrawnTest {
    private static final Checks C = new Checks("EdgeDrawnTest");
    private static final int[] FAR = {-1, 3, Integer.MIN_VALUE, Integer.MAX_VALUE};

    public static void main(String[] args) {
        drawBelowOdds();
        drawsGoOn();
        drawsWhileItIsNotOut();
        drawsAreTired();
        playsFromNowOn();
        playsByPlace();
        playsRefused();
        oftenFrom1To50();
        oftenGoesOn();
        oftenNotOut();
        oftenAtTheEnds();
        counts();
        countsOutBits();
        rowAtItsEdges();
        rowOfEachLength();
        rowToldLast();
        C.end();
    }

    private static String three(int odds) {
        return States.three("40=" + odds + "/10+1+0");
    }

    /** "each TRY GOOD if a DRAW of 1000 is below its ODDS": the first DRAW of a seed, and the ODDS just above it */
    private static void drawBelowOdds() {
        int[][] draws = {{0, 0}, {1, 838}, {-1, 697}, {42, 849}, {Integer.MAX_VALUE, 929}, {Integer.MIN_VALUE, 768},
            {-1322, 999}, {3241, 999}, {-1866, 0}};
        for (int[] d : draws) {
            for (int odds = d[1]; odds <= d[1] + 1; odds++) {
                NextLoad x = States.with("80,5" + three(odds));
                x.plays(d[0]);
                C.due("seed " + d[0] + ", ODDS " + odds, x.tried(0, 3), odds - d[1]);
            }
        }
        for (int seed = 0; seed < 50; seed++) {
            NextLoad sure = States.with("80,5" + three(1000));
            C.due("ODDS 1000", sure.plays(seed), 9);
            C.due("ODDS 1000: all GOOD", sure.count(5), 9);
            NextLoad never = States.with("80,5" + three(0));
            C.due("ODDS 0", never.plays(seed), 3);
            C.due("ODDS 0: none GOOD", never.count(5), 0);
        }
    }

    /** "R is seed at first; DRAW of n: R = R times 1103515245 + 12345 (as ints), (R without sign, by 65536) % n" */
    private static void drawsGoOn() {
        // seed 0: 0, 236, 756, 885, 498, 695, 45, 509, 890
        NextLoad x = States.with("80,5" + three(600));
        C.due("TRIES", x.plays(0), 9);
        C.row("by place", x, 0);
        int[] loads = {10, 11, 12, 10, 10, 11, 10, 11, 12};
        int[] good = {1, 1, 0, 0, 1, 0, 1, 1, 0};
        for (int k = 0; k < 9; k++) {
            C.due("LIFT of " + k, x.tried(k, 1), k / 3);
            C.due("LOAD of " + k, x.tried(k, 2), loads[k]);
            C.due("GOOD: " + k, x.tried(k, 3), good[k]);
        }
        C.due("TOTAL", x.lifter(0, 0, 11), 32);
        C.due("OVER", x.count(1), 3);
        // two in turn: of each ROUND the first DRAW is the first one's
        NextLoad y = States.with("80,5" + three(600), "80,6" + three(600));
        y.plays(0);
        C.due("0 is GOOD", y.tried(0, 3), 1);
        C.due("236 is GOOD", y.tried(1, 3), 1);
        C.due("756 is not", y.tried(2, 3), 0);
        C.due("885 is not", y.tried(3, 3), 0);
        C.due("498 is GOOD", y.tried(4, 3), 1);
        C.due("the lesser LOT is called ahead at 11", y.tried(2, 0), 0);
        C.due("again 11 by AGAIN 0", y.tried(4, 2), 11);
    }

    private static void drawsWhileItIsNotOut() {
        // seed 1: 838, 526, 113, 283
        NextLoad x = States.with("80,5" + three(113));
        C.due("OUT behind three", x.plays(1), 3);
        C.due("OUT", x.count(9), 1);
        NextLoad y = States.with("80,5" + three(114));
        C.due("the third is GOOD", y.plays(1) > 3, true);
        C.due("the third is GOOD", y.tried(2, 3), 1);
        C.due("the next DRAW in the next LIFT: 283", y.tried(3, 3), 0);
    }

    private static void drawsAreTired() {
        // seed 1: 838, 526 FAIL; 600 less 300 is not above 526, nor 600 less 600 above 113
        NextLoad x = States.with("80,5" + three(600));
        x.tires(300);
        C.due("tired", x.plays(1), 3);
        NextLoad y = States.with("80,5" + three(600));
        y.tires(73);
        y.plays(1);
        C.due("527 is above 526", y.tried(1, 3), 1);
        NextLoad z = States.with("80,5" + three(600));
        z.tires(74);
        z.plays(1);
        C.due("526 is not", z.tried(1, 3), 0);
    }

    /** "THE MEET goes on to its end, all by PLAN .. how many TRIES there were" */
    private static void playsFromNowOn() {
        NextLoad x = States.with("80,5" + three(600));
        x.asks(0, 20);
        States.tryAll(x, "gf");
        C.due("TRIES of it", x.plays(0), 7);
        C.due("TRIES so far", x.count(4), 9);
        C.due("what it ASKED", x.tried(0, 2), 20);
        C.due("from there on", x.tried(2, 2), 21);
        NextLoad y = States.last();
        C.due("the last ROUND of three", y.plays(7), 3);
        C.due("OVER", y.count(1), 3);
        NextLoad z = States.lastBegun();
        C.due("the last two", z.plays(7), 2);
        NextLoad asked = States.with("80,5" + three(1000));
        asked.asks(0, 39);
        // 39, 40, none; then 10, 11, 12 twice
        C.due("39, 40, and none above", asked.plays(3), 8);
        C.due("TOTAL", asked.lifter(0, 0, 11), 64);
    }

    /** "the ROW: LIFTERS by place" */
    private static void playsByPlace() {
        NextLoad x = States.with("80,5" + three(0), "70,6" + three(1000), "60,7" + three(1000), "75,8" + three(0));
        C.due("TRIES", x.plays(5), 24);
        C.row("like sums by BODY, those who are OUT behind", x, 2, 1, 3, 0);
        C.due("OUT", x.count(9), 9);
        String[] texts = new String[6];
        for (int i = 0; i < 6; i++) {
            texts[i] = "80," + (9 - i) + three(1000);
        }
        NextLoad all = States.with(texts);
        C.due("as many TRIES as there can be", all.plays(5), 54);
        C.due("TRIES", all.count(4), 54);
        C.due("GOOD ones", all.count(5), 54);
        C.row("by LOT", all, 5, 4, 3, 2, 1, 0);
        C.due("OVER", all.count(1), 3);
        C.due("the last one", all.tried(53, 0), 0);
        C.due("behind the last one", all.tried(54, 0), -1);
        NextLoad six = States.full();
        six.plays(5);
        C.due("six of them", six.count(7), 6);
        C.due("the first one", six.place((int) Checks.rowOf(six, 0)), 0);
    }

    /** "-2: it is OVER, or there are no LIFTERS." */
    private static void playsRefused() {
        for (int seed : new int[] {0, 1, -1, Integer.MIN_VALUE, Integer.MAX_VALUE}) {
            new Twins(C, "OVER", States::over).same("plays(" + seed + ")", x -> x.plays(seed), -2);
            new Twins(C, "empty", States::empty).same("plays(" + seed + ")", x -> x.plays(seed), -2);
        }
        new Twins(C, "all OUT", () -> {
            NextLoad x = States.with("80,5" + three(0));
            States.tryAll(x, "fff");
            return x;
        }).same("plays(1)", x -> x.plays(1), -2);
        NextLoad x = States.fresh();
        x.plays(3);
        C.due("again", x.plays(3), -2);
        C.due("the ROW stays", x.count(7), 3);
    }

    /** "n (1 .. 50) times"; "NONE: another n, too." */
    private static void oftenFrom1To50() {
        Twins middle = new Twins(C, "middle", States::middle);
        for (int n : new int[] {0, -1, 51, Integer.MIN_VALUE, Integer.MAX_VALUE}) {
            middle.same("often(0, " + n + ", 1)", x -> x.often(0, n, 1), -1);
        }
        for (int far : FAR) {
            middle.same("often(" + far + ", 1, 1)", x -> x.often(far, 1, 1), -1);
            middle.same("often(" + far + ", 0, 1)", x -> x.often(far, 0, 1), -1);
        }
        new Twins(C, "empty", States::empty).same("often(0, 1, 1)", x -> x.often(0, 1, 1), -1);
        Twins sure = new Twins(C, "sure", () -> States.with("80,5" + three(1000)));
        sure.tells("often(0, 1, 1)", x -> x.often(0, 1, 1), 1, 0, 36);
        sure.tells("often(0, 50, 1)", x -> x.often(0, 50, 1), 50, 0, 1800);
    }

    /** What often() answers and tells, reckoned by called() and tries() with draws of one's own. */
    private static void hold(String name, Supplier<NextLoad> maker, int lifter, int n, int seed) {
        int r = seed;
        int first = 0;
        int out = 0;
        int totals = 0;
        for (int i = 0; i < n; i++) {
            NextLoad x = maker.get();
            while (x.called() >= 0) {
                long odds = Checks.rowOf(x, 1);
                r = r * 1103515245 + 12345;
                x.tries((r & 0xFFFFFFFFL) / 65536 % 1000 < odds);
            }
            boolean isOut = x.lifter(lifter, 0, 10) == 1;
            first += x.place(lifter) == 0 && !isOut ? 1 : 0;
            out += isOut ? 1 : 0;
            totals += x.lifter(lifter, 0, 11);
        }
        String call = "often(" + lifter + ", " + n + ", " + seed + ")";
        new Twins(C, name, maker).tells(call, y -> y.often(lifter, n, seed), first, out, totals);
    }

    /** "n times in thought, R going on"; "how often OUT, all its TOTALS together" */
    private static void oftenGoesOn() {
        for (int seed : new int[] {0, 1, -1, 42, Integer.MIN_VALUE, Integer.MAX_VALUE}) {
            for (int n : new int[] {1, 2, 3, 49, 50}) {
                hold("fresh", States::fresh, seed & 1, n, seed);
                hold("middle", States::middle, 1, n, seed);
                hold("one OUT", States::oneOut, 1, n, seed);
                hold("last", States::last, 0, n, seed);
                hold("OVER", States::over, 2, n, seed);
            }
        }
        // seed 0, one meet: 32, as in plays()
        NextLoad x = States.with("80,5" + three(600));
        C.due("seed 0", x.often(0, 1, 0), 1);
        C.row("seed 0", x, 0, 32);
    }

    /** "is the first one, not OUT" */
    private static void oftenNotOut() {
        Twins none = new Twins(C, "sure to be OUT", () -> States.with("80,5" + three(0), "90,6" + three(0)));
        none.tells("often(0, 50, 1)", x -> x.often(0, 50, 1), 0, 50, 0);
        none.tells("often(1, 1, 1)", x -> x.often(1, 1, 1), 0, 1, 0);
        NextLoad x = States.with("80,5" + three(0), "90,6" + three(0));
        x.plays(1);
        C.due("it is the first one", x.place(0), 0);
        C.due("but OUT", x.often(0, 50, 1), 0);
        C.row("but OUT", x, 50, 0);
        Twins other = new Twins(C, "the other one OUT", () -> States.with("80,5" + three(0), "90,6" + three(1000)));
        other.tells("often(1, 50, 1)", y -> y.often(1, 50, 1), 50, 0, 1800);
        other.tells("often(0, 50, 1)", y -> y.often(0, 50, 1), 0, 50, 0);
    }

    private static void oftenAtTheEnds() {
        Twins over = new Twins(C, "OVER", States::over);
        // 34, 36, 64
        over.tells("often(2, 50, 9)", x -> x.often(2, 50, 9), 50, 0, 3200);
        over.tells("often(1, 50, 9)", x -> x.often(1, 50, 9), 0, 0, 1800);
        over.tells("often(0, 1, 9)", x -> x.often(0, 1, 9), 0, 0, 34);
        Twins out = new Twins(C, "one OUT", States::oneOut);
        out.tells("often(0, 50, 9)", x -> x.often(0, 50, 9), 0, 50, 0);
    }

    /** "NONE for another what." */
    private static void counts() {
        Twins middle = new Twins(C, "middle", States::middle);
        // three LIFTERS, LIFT 0, ROUND 1, BAR 10, four TRIES, two GOOD, TIRE 50, a ROW of one, five signs, nobody OUT
        int[] due = {3, 0, 1, 10, 4, 2, 50, 1, 5, 0};
        for (int what = 0; what < due.length; what++) {
            int w = what;
            middle.same("count(" + what + ")", x -> x.count(w), due[what]);
        }
        int[] none = {0, 0, 0, 0, 0, 0, 0, 0, 5, 0};
        Twins empty = new Twins(C, "empty", States::empty);
        for (int what = 0; what < none.length; what++) {
            int w = what;
            empty.same("count(" + what + ")", x -> x.count(w), none[what]);
        }
        for (int far : new int[] {-1, 10, Integer.MIN_VALUE, Integer.MAX_VALUE}) {
            middle.same("count(" + far + ")", x -> x.count(far), -1);
            empty.same("count(" + far + ")", x -> x.count(far), -1);
        }
    }

    /** "9: LIFTERS who are OUT (bits)" */
    private static void countsOutBits() {
        for (int bits = 0; bits < 64; bits++) {
            NextLoad x = States.full();
            x.begins();
            while (x.count(1) == 0) {
                x.tries((bits >> x.called() & 1) == 0);
            }
            C.due("OUT", x.count(9), bits);
            C.due("LIFT", x.count(1), bits == 63 ? 3 : 1);
        }
    }

    /** "Number i of the ROW. NoSuchElementException: none such." */
    private static void rowAtItsEdges() {
        for (int i : new int[] {-1, 0, 1, 8, 9, Integer.MIN_VALUE, Integer.MAX_VALUE}) {
            C.due("new: row(" + i + ")", Checks.throwsAt(new NextLoad(), i), true);
            Twins fresh = new Twins(C, "fresh", States::fresh);
            boolean there = i == 0 || i == 1;
            fresh.same("row(" + i + ")", x -> Checks.throwsAt(x, i) ? 1 : 0, there ? 0 : 1);
        }
        NextLoad x = States.fresh();
        C.due("row(0)", Checks.rowOf(x, 0), 1);
        C.due("row(1)", Checks.rowOf(x, 1), 0);
        C.due("row(2)", Checks.rowOf(x, 2), 2);
        C.due("row(3)", Checks.throwsAt(x, 3), true);
    }

    /** A ROW of none up to one of nine. */
    private static void rowOfEachLength() {
        NextLoad x = States.full();
        x.begins();
        for (int left = 6; left >= 1; left--) {
            C.due("order()", x.order(), left);
            C.due("numbers", x.count(7), left);
            C.due("the last one", Checks.throwsAt(x, left - 1), false);
            C.due("behind the last one", Checks.throwsAt(x, left), true);
            x.tries(true);
        }
        NextLoad y = States.with("80,5" + three(1000));
        for (int tries = 9; tries >= 1; tries--) {
            C.due("line", y.line(0, 0, true), tries);
            C.due("numbers", y.count(7), tries);
            C.due("the last one", Checks.throwsAt(y, tries - 1), false);
            C.due("behind the last one", Checks.throwsAt(y, tries), true);
            y.tries(true);
        }
        C.due("line of none", y.line(0, 0, true), 0);
        C.row("line of none", y);
    }

    /** "ROW of numbers: told last by a call that says so"; it "stays with each answer below 0" */
    private static void rowToldLast() {
        NextLoad x = States.with("80,5" + three(1000));
        x.line(0, 0, true);
        C.due("nine", x.count(7), 9);
        x.called();
        C.row("two, and nothing of the nine", x, 10, 1000);
        C.due("aim", x.aim(0, 1), 120);
        C.row("one", x, 1000000);
        C.due("refused", x.line(0, 2, true), -1);
        C.row("stays", x, 1000000);
        C.due("refused", x.heavy(1), -1);
        C.row("stays", x, 1000000);
        x.mass(0);
        x.opener(0, 0, 0);
        x.slot(0, 0);
        C.row("stays with calls that do not tell of it", x, 1000000);
        C.due("refused", x.duel(0, 0), -1);
        C.row("stays", x, 1000000);
        x.begins();
        x.plans(0, 0, 0, 11);
        x.tires(1);
        x.asks(0, 12);
        x.sign(0);
        x.end(0);
        x.enters();
        C.row("stays with what changes else", x, 1000000);
        x.leaves();
        C.row("stays without LIFTERS", x, 1000000);
        C.due("order()", x.order(), 0);
        C.row("none any more", x);
    }
}
