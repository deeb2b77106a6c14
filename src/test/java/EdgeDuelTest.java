/** Promises 32 and 33 at their edges: the duel about the last TRY. */
public final class EdgeDuelTest {
    private static final Checks C = new Checks("EdgeDuelTest");
    /** Makes 1 at once, and nothing more. */
    private static final String ONES = ";1=1000/1+1+0;1=1000/1+1+0";
    private static final int[] FAR = {-1, 3, Integer.MIN_VALUE, Integer.MAX_VALUE};

    public static void main(String[] args) {
        whenItIsNotTheLastRound();
        whoHasNoneToCome();
        whoTheyAre();
        changesFrom0To2();
        aheadAtLast();
        aheadBySums();
        whoIsOutAtLast();
        whoIsCalled();
        theTryFirst();
        thenTheLeastLoad();
        oneChangeLess();
        theOtherOneToo();
        noGreaterLoad();
        changesLeft();
        tired();
        othersAside();
        C.end();
    }

    /** LIFT 2, ROUND 2 of LIFTERS with 2 so far; how[i]: what LIFTER i does in ROUNDS 0 and 1. */
    private static NextLoad lastRound(String[] how, String... lifters) {
        String[] texts = new String[lifters.length];
        for (int i = 0; i < texts.length; i++) {
            int cut = lifters[i].indexOf(';');
            texts[i] = lifters[i].substring(0, cut) + ONES + lifters[i].substring(cut);
        }
        NextLoad x = States.with(texts);
        while (x.count(1) < 2) {
            x.tries(x.lifter(x.called(), x.count(1), 5) == 0);
        }
        while (x.count(2) < 2) {
            x.tries(how[x.called()].charAt(x.count(2)) == 'g');
        }
        return x;
    }

    /** Two who FAILED twice: what they ASK for is OPEN, and they are OUT if they FAIL. */
    private static NextLoad bothFailed(String a, String b) {
        return lastRound(new String[] {"ff", "ff"}, a, b);
    }

    /** "-2: it is not ROUND 2 of LIFT 2"; NONE comes first, then -2, then -3 */
    private static void whenItIsNotTheLastRound() {
        for (int rounds = 0; rounds <= 9; rounds++) {
            int n = rounds;
            Twins t = new Twins(C, "behind " + rounds + " ROUNDS", () -> {
                NextLoad x = States.with("80,5" + States.three("40=500/10+1+0"), "80,6" + States.three("40=500/10+1+0"));
                for (int i = 0; i < 2 * n; i++) {
                    x.tries(true);
                }
                return x;
            });
            if (rounds != 8) {
                t.same("duel(0, 1)", x -> x.duel(0, 1), -2);
                t.same("bluff(0, 1, 2, 2)", x -> x.bluff(0, 1, 2, 2), -2);
                t.same("duel(0, 0)", x -> x.duel(0, 0), -1);
                t.same("bluff(0, 1, 3, 0)", x -> x.bluff(0, 1, 3, 0), -1);
                t.same("bluff(0, 2, 0, 0)", x -> x.bluff(0, 2, 0, 0), -1);
            } else {
                C.due("ROUND 2 of LIFT 2", lastOfTwo().duel(0, 1) >= 0, true);
            }
        }
        Twins middle = new Twins(C, "middle", States::middle);
        middle.same("one has none to come: -2 first", x -> x.duel(1, 2), -2);
        middle.same("one has none to come: -2 first", x -> x.bluff(2, 1, 0, 0), -2);
        new Twins(C, "one OUT", States::oneOut).same("-2 first", x -> x.duel(0, 1), -2);
        new Twins(C, "empty", States::empty).same("duel(0, 1)", x -> x.duel(0, 1), -1);
        new Twins(C, "empty", States::empty).same("bluff(0, 1, 0, 0)", x -> x.bluff(0, 1, 0, 0), -1);
    }

    private static NextLoad lastOfTwo() {
        NextLoad x = States.with("80,5" + States.three("40=500/10+1+0"), "80,6" + States.three("40=500/10+1+0"));
        States.tryAll(x, "gggggggggggggggg");
        return x;
    }

    /** "-3: one of them has no TRY of it to come" */
    private static void whoHasNoneToCome() {
        Twins begun = new Twins(C, "has tried", States::lastBegun);
        begun.same("duel(0, 1)", x -> x.duel(0, 1), -3);
        begun.same("duel(1, 0)", x -> x.duel(1, 0), -3);
        begun.same("bluff(0, 2, 2, 2)", x -> x.bluff(0, 2, 2, 2), -3);
        begun.same("bluff(2, 0, 0, 0)", x -> x.bluff(2, 0, 0, 0), -3);
        begun.same("NONE first", x -> x.duel(0, 0), -1);
        begun.same("NONE first", x -> x.bluff(0, 1, 3, 0), -1);
        begun.same("NONE first", x -> x.bluff(0, 1, 0, -1), -1);
        begun.same("NONE first", x -> x.duel(0, 3), -1);
        C.due("the two who are left", States.lastBegun().duel(1, 2) >= 0, true);
        // 40 made in ROUND 0: no TRY of ROUND 2; OUT in LIFT 0: none
        Twins none = new Twins(C, "none to come", () -> {
            NextLoad x = States.with("80,5" + ONES + ";40=500/40+1+0", "80,6" + ONES + ";40=500/10+1+0", "80,7;1=0/40+1+1" + ONES,
                "80,8" + ONES + ";40=500/11+1+0");
            while (x.count(1) < 2 || x.count(2) < 2) {
                int who = x.called();
                x.tries(who != 2 && x.lifter(who, x.count(1), 5) == 0);
            }
            return x;
        });
        none.same("above 40", x -> x.duel(0, 1), -3);
        none.same("above 40", x -> x.duel(1, 0), -3);
        none.same("above 40", x -> x.bluff(1, 0, 1, 1), -3);
        none.same("OUT", x -> x.duel(2, 1), -3);
        none.same("OUT", x -> x.duel(1, 2), -3);
        none.same("OUT, and above 40", x -> x.bluff(0, 2, 0, 0), -3);
    }

    /** "NONE: they are one, too." */
    private static void whoTheyAre() {
        Twins last = new Twins(C, "last", States::last);
        for (int i = 0; i < 3; i++) {
            int one = i;
            last.same("duel with itself", x -> x.duel(one, one), -1);
            last.same("bluff with itself", x -> x.bluff(one, one, 1, 1), -1);
        }
        for (int far : FAR) {
            last.same("duel(" + far + ", 0)", x -> x.duel(far, 0), -1);
            last.same("duel(0, " + far + ")", x -> x.duel(0, far), -1);
            last.same("bluff(" + far + ", 0, 0, 0)", x -> x.bluff(far, 0, 0, 0), -1);
            last.same("bluff(0, " + far + ", 0, 0)", x -> x.bluff(0, far, 0, 0), -1);
        }
    }

    /** "if a had x CHANGES, b y (0 .. 2 each)"; "NONE: another x, y." */
    private static void changesFrom0To2() {
        Twins last = new Twins(C, "last", States::last);
        for (int far : new int[] {-1, 3, Integer.MIN_VALUE, Integer.MAX_VALUE}) {
            last.same("bluff(0, 1, " + far + ", 0)", x -> x.bluff(0, 1, far, 0), -1);
            last.same("bluff(0, 1, 0, " + far + ")", x -> x.bluff(0, 1, 0, far), -1);
            last.same("bluff(0, 1, 2, " + far + ")", x -> x.bluff(0, 1, 2, far), -1);
        }
        for (int x = 0; x < 3; x++) {
            for (int y = 0; y < 3; y++) {
                NextLoad meet = States.last();
                C.due("bluff(0, 1, " + x + ", " + y + ")", meet.bluff(0, 1, x, y) >= 0, true);
                C.due("two numbers", meet.count(7), 2);
            }
        }
    }

    /** One who tries at load for sure, having FAILED twice, or with a BEST of 1. */
    private static String sure(String who, int load) {
        return who + ";" + load + "=1000/" + load + "+1+0";
    }

    /** "1000000 if a is AHEAD of b at last" */
    private static void aheadAtLast() {
        int[][] loads = {{10, 10}, {10, 11}, {11, 10}, {1, 1}, {40, 40}, {39, 40}, {40, 39}, {1, 2}, {1, 40}};
        for (int[] l : loads) {
            String name = l[0] + " against " + l[1];
            int greater = l[0] > l[1] ? 1000000 : 0;
            int like = l[0] == l[1] ? 1000000 : greater;
            C.due(name + ", lesser LOT", bothFailed(sure("80,5", l[0]), sure("80,6", l[1])).bluff(0, 1, 0, 0), like);
            C.due(name + ", greater LOT", bothFailed(sure("80,6", l[0]), sure("80,5", l[1])).bluff(0, 1, 0, 0), greater);
            C.due(name + ", lesser BODY", bothFailed(sure("79,6", l[0]), sure("80,5", l[1])).bluff(0, 1, 0, 0), like);
            C.due(name + ", greater BODY", bothFailed(sure("81,5", l[0]), sure("80,6", l[1])).bluff(0, 1, 0, 0), greater);
        }
        // by sums of all LIFTS, and what stands if the TRY FAILS
        NextLoad x = lastRound(new String[] {"gf", "gf"}, "80,5;10=0/10+1+1", "80,6;9=1000,10=0/9+2+2");
        C.due("10 stands, 13 FAILS", x.bluff(0, 1, 0, 0), 1000000);
        NextLoad y = lastRound(new String[] {"gf", "ff"}, "80,5;10=0/10+1+1", sure("80,6", 11));
        C.due("10 stands, 11 is made", y.bluff(0, 1, 0, 0), 0);
        NextLoad z = lastRound(new String[] {"gf", "ff"}, "80,5;10=0/10+1+1", sure("80,6", 10));
        C.due("10 stands, 10 is made", z.bluff(0, 1, 0, 0), 1000000);
    }

    /** LIFT 2, ROUND 2 of two with those BESTS of LIFTS 0 and 1, the first one AHEAD with like sums, 10 each at last for sure. */
    private static NextLoad unlike(int a0, int a1, int b0, int b1) {
        NextLoad x = States.with("80,5;40=500/" + a0 + "+1+0;40=500/" + a1 + "+1+0;10=1000/10+1+0",
            "80,6;40=500/" + b0 + "+1+0;40=500/" + b1 + "+1+0;10=1000/10+1+0");
        while (x.count(1) < 2 || x.count(2) < 2) {
            x.tries(x.count(1) < 2 && x.lifter(x.called(), x.count(1), 5) == 0);
        }
        return x;
    }

    /** AHEAD by the sum of all three LIFTS */
    private static void aheadBySums() {
        int[][] bests = {{5, 7, 6, 6}, {5, 7, 6, 7}, {5, 7, 7, 6}, {5, 7, 5, 6}, {5, 7, 4, 7}, {1, 40, 40, 1}, {40, 1, 2, 40}, {30, 2, 2, 29}};
        for (int[] b : bests) {
            NextLoad x = unlike(b[0], b[1], b[2], b[3]);
            boolean leads = b[0] + b[1] >= b[2] + b[3];
            String name = b[0] + " and " + b[1] + " against " + b[2] + " and " + b[3];
            C.due(name, x.bluff(0, 1, 0, 0), leads ? 1000000 : 0);
            C.due(name + ", the other way round", x.bluff(1, 0, 0, 0), leads ? 0 : 1000000);
        }
    }

    /** "both not OUT, or b alone OUT; 0 otherwise" */
    private static void whoIsOutAtLast() {
        String fails = ";10=0/10+1+0";
        C.due("b alone OUT", bothFailed(sure("80,5", 1), "70,6" + fails).bluff(0, 1, 0, 0), 1000000);
        C.due("a alone OUT", bothFailed("70,6" + fails, sure("80,5", 1)).bluff(0, 1, 0, 0), 0);
        NextLoad both = bothFailed("70,6" + fails, "80,5" + fails);
        C.due("both OUT", both.bluff(0, 1, 0, 0), 0);
        C.due("both OUT", both.bluff(1, 0, 0, 0), 0);
        C.due("both OUT", both.duel(0, 1), 0);
        C.row("both OUT", both, 1, 0, 0);
        // 500 each: a GOOD (b no more than like), 500000; b GOOD and a OUT, 250000; both OUT, 250000
        NextLoad half = bothFailed("80,5;40=500/10+1+0", "80,6;40=500/10+1+0");
        C.due("a", half.bluff(0, 1, 0, 0), 500000);
        C.due("b", half.bluff(1, 0, 0, 0), 250000);
        // who is OUT with more in the LIFTS ahead is OUT all the same
        NextLoad rich = States.with("80,5;40=1000/40+1+0;1=1000/1+1+0" + fails, "80,6" + ONES + ";1=1000/1+1+0");
        while (rich.count(1) < 2) {
            rich.tries(rich.lifter(rich.called(), rich.count(1), 5) == 0);
        }
        while (rich.count(2) < 2) {
            rich.tries(false);
        }
        C.due("40 and 1, then OUT", rich.bluff(0, 1, 0, 0), 0);
        C.due("40 and 1, then OUT", rich.bluff(1, 0, 0, 0), 1000000);
    }

    /** "the ROW: who is CALLED": of the two the least LOAD, of equal ones the least LOT */
    private static void whoIsCalled() {
        int[][] due = {{10, 10, 5, 6, 0}, {10, 10, 6, 5, 1}, {10, 11, 6, 5, 0}, {11, 10, 5, 6, 1}};
        for (int[] d : due) {
            NextLoad x = bothFailed(sure("80," + d[2], d[0]), sure("70," + d[3], d[1]));
            x.duel(0, 1);
            C.due("duel(0, 1): called", Checks.rowOf(x, 0), d[4]);
            C.due("duel: three numbers", x.count(7), 3);
            x.duel(1, 0);
            C.due("duel(1, 0): called", Checks.rowOf(x, 0), d[4]);
            x.bluff(0, 1, 0, 0);
            C.due("bluff(0, 1, 0, 0): called", Checks.rowOf(x, 0), d[4]);
            C.due("bluff: two numbers", x.count(7), 2);
            x.bluff(1, 0, 2, 2);
            C.due("bluff(1, 0, 2, 2): called", Checks.rowOf(x, 0), d[4]);
            C.due("called()", x.called(), d[4]);
        }
    }

    /** "of equal ones the TRY first" */
    private static void theTryFirst() {
        // ODDS 500 at each LOAD: to go above is worth as much, not more
        Twins even = new Twins(C, "even", () -> bothFailed("80,5;40=500/10+1+0", "80,6;40=500/10+1+0"));
        even.tells("a may go above", x -> x.bluff(0, 1, 1, 0), 500000, 0, 0);
        even.tells("a may go above twice", x -> x.bluff(0, 1, 2, 0), 500000, 0, 0);
        even.tells("the same for who wants it least", x -> x.bluff(1, 0, 0, 1), 250000, 0, 0);
        Twins lost = new Twins(C, "lost", () -> bothFailed("80,5;40=0/10+1+0", sure("80,6", 11)));
        lost.tells("nothing helps", x -> x.duel(0, 1), 0, 0, 0, 0);
        lost.tells("nothing can harm", x -> x.duel(1, 0), 1000000, 0, 0, 1000000);
    }

    /** "then the least LOAD" */
    private static void thenTheLeastLoad() {
        // 5 is AHEAD with like sums and called first; 6 can go above, once 5 has tried: 250000
        Twins even = new Twins(C, "even", () -> bothFailed("80,5;40=500/10+1+0", "80,6;40=500/10+1+0"));
        even.tells("b goes above", x -> x.bluff(0, 1, 0, 1), 250000, 0, 0);
        // a at 10 is called, b stands at 10 and has no CHANGES: to go behind b costs nothing, but is not needed
        Twins behind = new Twins(C, "behind", () -> lastRound(new String[] {"gf", "gf"}, "80,5;40=500/10+1+1", "70,6;40=500/10+1+1"));
        // 10 stand both, b leads with like sums; both ASKED 12, a is called: GOOD and b FAILS: 250000.
        // a at 13 or more, called last: GOOD: 500000
        behind.tells("no CHANGES", x -> x.bluff(0, 1, 0, 0), 250000, 0, 0);
        behind.tells("13 of all above", x -> x.bluff(0, 1, 1, 0), 500000, 0, 13);
        behind.tells("no CHANGES, behind others", x -> {
            x.bluff(0, 1, 2, 2);
            x.bluff(0, 1, 2, 0);
            return x.bluff(0, 1, 0, 0);
        }, 250000, 0, 0);
        // if b has a CHANGE, it goes as far as a, who is then called ahead of it: 250000; 40 is far enough for all
        for (int x = 0; x < 3; x++) {
            for (int y = 0; y < 3; y++) {
                int a = x;
                int b = y;
                boolean goes = x > 0 && y == 0;
                behind.tells("bluff(0, 1, " + x + ", " + y + ")", m -> m.bluff(0, 1, a, b), goes ? 500000 : 250000, 0, goes ? 13 : 0);
                behind.tells("bluff(1, 0, " + y + ", " + x + ")", m -> m.bluff(1, 0, b, a), goes ? 500000 : 750000, 0, goes ? 13 : 0);
            }
        }
        Twins used = new Twins(C, "b has used both", () -> {
            NextLoad x = lastRound(new String[] {"gf", "gf"}, "80,5;40=500/10+1+1", "70,6;40=500/10+1+1");
            x.asks(1, 13);
            x.asks(1, 12);
            return x;
        });
        used.tells("VALUE if nobody had CHANGES", x -> x.duel(0, 1), 500000, 0, 13, 250000);
        used.tells("the other way round", x -> x.duel(1, 0), 500000, 0, 13, 750000);
        behind.tells("13 for who wants it least", x -> x.bluff(1, 0, 0, 1), 500000, 0, 13);
    }

    /** 5 stand for a, who ASKED 15, 4 for b, who ASKED 10; a is AHEAD with like sums, and called first at like LOADS. */
    private static NextLoad flexible() {
        return lastRound(new String[] {"gf", "gf"}, "70,5;15=500/5+5+5", "80,6;10=600,15=600,16=400/4+3+3");
    }

    /** "ASKS for a greater LOAD instead (one CHANGE less), and again one is CALLED" */
    private static void oneChangeLess() {
        Twins t = new Twins(C, "flexible", EdgeDuelTest::flexible);
        C.due("a ASKED", flexible().lifter(0, 0, 6), 15);
        C.due("b ASKED", flexible().lifter(1, 0, 6), 10);
        // b at 10: 600 and a FAILS: 300000 lost for a
        t.tells("none", x -> x.bluff(0, 1, 0, 0), 700000, 1, 0);
        // at 16 at once, 400 whatever a does; at 15 it would beat nothing but 5: 300000
        t.tells("one", x -> x.bluff(0, 1, 0, 1), 600000, 1, 16);
        // at 15, then 16 if a made 15 (400), else 15 (600)
        t.tells("two", x -> x.bluff(0, 1, 0, 2), 500000, 1, 15);
        t.tells("none, from the other side", x -> x.bluff(1, 0, 0, 0), 300000, 1, 0);
        t.tells("one, from the other side", x -> x.bluff(1, 0, 1, 0), 400000, 1, 16);
        t.tells("two, from the other side", x -> x.bluff(1, 0, 2, 0), 500000, 1, 15);
    }

    /** "When one has tried the other one, too, tries at what it ASKED or ASKS first for a greater one." */
    private static void theOtherOneToo() {
        NextLoad x = bothFailed("80,5;10=1000/10+1+0", "80,6;10=1000,11=300,40=300/10+1+0");
        // a is called, and makes 10 (with CHANGES it would not go above: it has no ODDS there)
        C.due("b has no CHANGES", x.bluff(0, 1, 0, 0), 1000000);
        C.due("b goes above", x.bluff(0, 1, 0, 1), 700000);
        C.row("a can only try", x, 0, 0);
        C.due("b goes above, a second CHANGE is of no more use", x.bluff(0, 1, 0, 2), 700000);
        NextLoad y = bothFailed("80,6;10=1000,11=300,40=300/10+1+0", "80,5;10=1000/10+1+0");
        C.due("the other way round", y.bluff(0, 1, 0, 0), 0);
        C.due("the other way round", y.bluff(0, 1, 1, 0), 300000);
        C.row("the other way round", y, 1, 0);
    }

    /** LOADS up to 40 */
    private static void noGreaterLoad() {
        NextLoad high = bothFailed("80,5;40=500/40+1+0", "80,6;40=500/40+1+0");
        for (int x = 0; x < 3; x++) {
            for (int y = 0; y < 3; y++) {
                C.due("both at 40", high.bluff(0, 1, x, y), 500000);
                C.row("both at 40", high, 0, 0);
                C.due("both at 40", high.bluff(1, 0, x, y), 250000);
            }
        }
        // both have 38, the greater BODY is called at 39: b at 39, too, so that 40 alone is behind it
        NextLoad near = lastRound(new String[] {"gf", "gf"}, "80,5;40=500/38+1+0", "70,6;40=500/38+1+0");
        C.due("ASKED", near.lifter(0, 0, 6), 39);
        C.due("39: GOOD, and b FAILS", near.bluff(0, 1, 0, 0), 250000);
        C.due("40 is above", near.bluff(0, 1, 1, 0), 500000);
        C.row("40 is above", near, 0, 40);
    }

    /** "if it has CHANGES left": duel() goes by those that are left, bluff() by those that are told */
    private static void changesLeft() {
        NextLoad x = flexible();
        C.due("two each", x.duel(0, 1), x.bluff(0, 1, 2, 2));
        x = flexible();
        C.due("asks", x.asks(1, 11), 1);
        C.due("one left", x.duel(0, 1), x.bluff(0, 1, 2, 1));
        C.due("asks", x.asks(1, 10), 0);
        C.due("none left", x.duel(0, 1), x.bluff(0, 1, 2, 0));
        C.due("asks", x.asks(0, 16), 1);
        C.due("asks", x.asks(0, 15), 0);
        C.due("none left for both", x.duel(0, 1), 700000);
        C.row("none left for both", x, 1, 0, 700000);
        C.due("as if b had one", x.bluff(0, 1, 0, 1), 600000);
        C.due("that changes none", x.lifter(1, 0, 8), 0);
        Twins all = new Twins(C, "flexible", EdgeDuelTest::flexible);
        NextLoad told = flexible();
        int value = told.duel(0, 1);
        all.tells("duel(0, 1)", y -> y.duel(0, 1), value, 1, Checks.rowOf(told, 1), 700000);
    }

    /** "of a TRY as above": ODDS less by TIRE for each that FAILED in this LIFT */
    private static void tired() {
        NextLoad x = bothFailed("80,5;40=700/10+1+0", "80,6;40=0/10+1+0");
        C.due("700", x.bluff(0, 1, 0, 0), 700000);
        x.tires(100);
        C.due("700 less 200", x.bluff(0, 1, 0, 0), 500000);
        x.tires(300);
        C.due("700 less 600", x.bluff(0, 1, 0, 0), 100000);
        NextLoad y = bothFailed("80,5;40=0/10+1+0", "80,6;40=700/10+1+0");
        y.tires(300);
        C.due("b: 700 less 600", y.bluff(1, 0, 0, 0), 100000);
        C.due("b: 700 less 600, both of them to be OUT", y.bluff(0, 1, 0, 0), 0);
        NextLoad once = lastRound(new String[] {"gf", "ff"}, "80,5;40=700/10+1+0", "80,6;20=1000/20+1+0");
        once.tires(100);
        // a has 10 and asks 11; b is at 20, 800 of 1000
        C.due("b less 200, a cannot get there", once.bluff(0, 1, 0, 0), 200000);
    }

    /** "others aside" */
    private static void othersAside() {
        String[] two = {"ff", "ff"};
        String[] three = {"ff", "ff", "ff"};
        NextLoad x = lastRound(two, "80,5;40=500/10+1+0", "80,6;40=400/12+1+0");
        NextLoad y = lastRound(three, "80,5;40=500/10+1+0", "80,6;40=400/12+1+0", "60,0;40=1000/9+1+0");
        C.due("a third one is called", y.called(), 2);
        C.due("duel", y.duel(0, 1), x.duel(0, 1));
        C.due("called of the two", Checks.rowOf(y, 0), 0);
        y.tries(true);
        C.due("behind its TRY", y.duel(0, 1), x.duel(0, 1));
        for (int i = 0; i < 3; i++) {
            C.due("row " + i, Checks.rowOf(y, i), Checks.rowOf(x, i));
        }
    }
}
