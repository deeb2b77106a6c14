/** Each promise by itself: ordinary inputs, the edges that the document names, wrong inputs; all reckoned by hand. */
public final class PromisesTest {
    private static final Checks C = new Checks("PromisesTest");
    /** Makes all up to 10, nothing above. */
    private static final String SURE = "80,5;10=1000/10+1+0;10=1000/10+1+0;10=1000/10+1+0";
    /** One chance in two up to 20, nothing above. */
    private static final String HALF = ";20=500/10+1+0;20=500/10+1+0;20=500/10+1+0";
    private static final String TWO = HALF.substring(0, 28);
    private static final int[] FAR = {-1, 6, 7, Integer.MIN_VALUE, Integer.MAX_VALUE};

    public static void main(String[] args) {
        newObject();
        signAndEnd();
        enters();
        entersRefused();
        leavesAndPlans();
        tiresBeginsOdds();
        lifter();
        calledOrderAsks();
        triesAndTried();
        whoIsOut();
        place();
        slotAndNeeds();
        plansReckoned();
        beatsAndWins();
        bombsAndOpener();
        freeLoads();
        freeNowAndThen();
        lines();
        duel();
        duelAtTheEdges();
        drawn();
        greatest();
        rowStays();
        C.end();
    }

    private static NextLoad with(String... texts) {
        NextLoad x = new NextLoad();
        for (int i = 0; i < texts.length; i++) {
            C.due("enters() of " + texts[i], Checks.enter(x, texts[i]), i);
        }
        return x;
    }

    private static void newObject() {
        NextLoad x = new NextLoad();
        for (int what = 0; what < 10; what++) {
            C.due("new, count(" + what + ")", x.count(what), 0);
        }
        C.due("count(10)", x.count(10), NextLoad.NONE);
        C.due("count(-1)", x.count(-1), -1);
        C.due("NONE", NextLoad.NONE, -1);
        C.row("new", x);
        C.due("called()", x.called(), -2);
        C.due("order()", x.order(), 0);
        C.due("tries(false)", x.tries(false), -2);
        C.due("plays(0)", x.plays(0), -2);
        C.due("begins()", x.begins(), 0);
        C.due("leaves()", x.leaves(), -2);
        C.due("often(0, 1, 1)", x.often(0, 1, 1), -1);
    }

    private static void signAndEnd() {
        NextLoad x = new NextLoad();
        for (int i = 1; i <= 60; i++) {
            C.due("sign " + i, x.sign(0x30303030), 4 * i);
        }
        C.due("sign 61", x.sign(0), -1);
        C.due("count(8)", x.count(8), 240);
        C.due("end(241)", x.end(241), false);
        C.due("end(-1)", x.end(-1), false);
        C.due("end(240)", x.end(240), true);
        C.due("end(237)", x.end(237), true);
        C.due("sign on 237", x.sign(0), -1);
        C.due("end(236)", x.end(236), true);
        C.due("sign on 236", x.sign(0), 240);
        C.due("end(0)", x.end(0), true);
        C.due("count(8)", x.count(8), 0);
        // the highest byte comes first: 8, a sign above 127, and so on
        x.sign(0x38E92C35);
        C.due("enters() of a sign above 127", x.enters(), -22);
        C.due("count(8)", x.count(8), 0);
    }

    private static void enters() {
        NextLoad x = with("1,0;40=1000/40+9+9;1=0/1+1+0;1=1000,2=999,3=998,4=4,39=4,40=0/1+1+0", "200,99" + HALF);
        C.due("BODY", x.lifter(0, 0, 0), 1);
        C.due("LOT", x.lifter(0, 0, 1), 0);
        C.due("OPEN", x.lifter(0, 0, 2), 40);
        C.due("MORE", x.lifter(0, 0, 3), 9);
        C.due("AGAIN", x.lifter(0, 0, 4), 9);
        C.due("BODY", x.lifter(1, 0, 0), 200);
        C.due("LOT", x.lifter(1, 0, 1), 99);
        x.tries(true);
        C.due("count(4)", x.count(4), 1);
        Checks.enter(x, "5,5" + HALF);
        C.due("begun anew", x.count(4), 0);
        C.due("tries by one more", x.count(0), 3);
        for (int i = 3; i < 6; i++) {
            C.due("enters() " + i, Checks.enter(x, "5," + (3 + i) + HALF), i);
        }
        x.tries(true);
        C.due("a 7th", Checks.enter(x, "5,55" + HALF), -2);
        C.due("a 7th with a bad sign", Checks.enter(x, "5,5" + HALF), -23);
        C.due("nothing begun anew", x.count(4), 1);
        C.due("count(8)", x.count(8), 0);
        C.due("count(0)", x.count(0), 6);
    }

    private static void bad(NextLoad x, String text, int p) {
        int before = x.count(0);
        C.due("enters() of '" + text + "'", Checks.enter(x, text), -21 - p);
        C.due("count(8)", x.count(8), 0);
        C.due("count(0)", x.count(0), before);
    }

    private static void entersRefused() {
        NextLoad x = with("80,5" + HALF);
        bad(x, "", 0);
        bad(x, ",", 0);
        bad(x, "x", 0);
        bad(x, "0,1", 0);
        bad(x, "01,1", 0);
        bad(x, "201,1", 2);
        bad(x, "999", 2);
        bad(x, "1234", 3);
        bad(x, "12345", 3);
        bad(x, "80", 2);
        bad(x, "80;", 2);
        bad(x, "80,", 3);
        bad(x, "80,;", 3);
        bad(x, "80,5", 3);
        bad(x, "80,5;", 3);
        bad(x, "80,05;", 4);
        bad(x, "80,100", 5);
        bad(x, "80,55", 5);
        bad(x, "80,6,", 4);
        bad(x, "80,6;", 5);
        bad(x, "80,6;0=", 5);
        bad(x, "80,6;40", 7);
        bad(x, "80,6;41=", 6);
        bad(x, "80,6;40=1001", 11);
        bad(x, "80,6;40=10000", 12);
        bad(x, "80,6;40=00", 9);
        bad(x, "80,6;4=9,4=", 9);
        bad(x, "80,6;4=9,3=", 9);
        bad(x, "80,6;14=9,3=", 10);
        bad(x, "80,6;40=9,41=", 11);
        bad(x, "80,6;4=9,5=10", 12);
        bad(x, "80,6;4=0,5=1/", 11);
        bad(x, "80,6;1=1,2=1,3=1,4=1,5=1,6=1,7=1", 28);
        bad(x, "80,6;4=9,", 9);
        bad(x, "80,6;4=9;", 8);
        bad(x, "80,6;4=9/", 9);
        bad(x, "80,6;4=9/0", 9);
        bad(x, "80,6;4=9/41", 10);
        bad(x, "80,6;4=9/4", 10);
        bad(x, "80,6;4=9/4+0", 11);
        bad(x, "80,6;4=9/4+10", 12);
        bad(x, "80,6;4=9/4-", 10);
        bad(x, "80,6;4=9/4+1+10", 14);
        bad(x, "80,6;4=9/4+1+", 13);
        bad(x, "80,6;4=9/4+1+0", 14);
        bad(x, "80,6;4=9/4+1+00", 14);
        bad(x, "80,6" + HALF + ";", 4 + HALF.length());
        bad(x, "80,6" + HALF + "0", 4 + HALF.length());
        bad(x, "80,6" + HALF.substring(0, HALF.length() - 1), 3 + HALF.length());
        bad(x, "80,6" + HALF.substring(0, HALF.length() - 1) + "10", 4 + HALF.length());
    }

    private static void leavesAndPlans() {
        NextLoad x = with("80,5" + HALF, "70,6" + HALF);
        x.tries(true);
        C.due("plans OPEN", x.plans(1, 0, 0, 9), 10);
        C.due("begun anew", x.count(4), 0);
        C.due("plans OPEN again", x.plans(1, 0, 0, 40), 9);
        C.due("ASKED", x.lifter(1, 0, 6), 40);
        C.due("plans MORE", x.plans(0, 2, 1, 9), 1);
        C.due("plans AGAIN", x.plans(0, 2, 2, 9), 0);
        C.due("plans the least MORE", x.plans(0, 1, 1, 1), 1);
        C.due("plans the least AGAIN", x.plans(0, 1, 2, 0), 0);
        C.due("plans the least OPEN", x.plans(0, 1, 0, 1), 10);
        C.due("MORE", x.lifter(0, 2, 3), 9);
        C.due("AGAIN", x.lifter(0, 2, 4), 9);
        x.tries(true);
        int[][] wrong = {{0, 0, 0, 0}, {0, 0, 0, 41}, {0, 0, 1, 0}, {0, 0, 1, 10}, {0, 0, 2, -1}, {0, 0, 2, 10},
            {0, 0, 3, 1}, {0, 0, -1, 1}, {0, 3, 0, 1}, {0, -1, 0, 1}, {2, 0, 0, 1}, {-1, 0, 0, 1}};
        for (int[] w : wrong) {
            C.due("plans of wrong", x.plans(w[0], w[1], w[2], w[3]), -1);
        }
        C.due("not begun anew", x.count(4), 1);
        C.due("leaves()", x.leaves(), 1);
        C.due("begun anew", x.count(4), 0);
        C.due("no such one", x.lifter(1, 0, 0), -1);
        C.due("its LOT is free", Checks.enter(x, "70,6" + HALF), 1);
        C.due("leaves()", x.leaves(), 1);
        C.due("leaves()", x.leaves(), 0);
        C.due("leaves()", x.leaves(), -2);
    }

    private static void tiresBeginsOdds() {
        NextLoad x = with("80,5;5=1000,8=900,20=0/5+1+0;3=7/5+1+0;40=1/5+1+0");
        C.due("up to the first", x.odds(0, 0, 1, 0), 1000);
        C.due("the first", x.odds(0, 0, 5, 2), 1000);
        C.due("a third between, cut: less 33", x.odds(0, 0, 6, 0), 967);
        C.due("two thirds, cut: less 66", x.odds(0, 0, 7, 0), 934);
        C.due("the second", x.odds(0, 0, 8, 0), 900);
        C.due("between", x.odds(0, 0, 9, 0), 825);
        C.due("the last", x.odds(0, 0, 20, 0), 0);
        C.due("behind the last", x.odds(0, 0, 40, 0), 0);
        C.due("behind the only one", x.odds(0, 1, 4, 0), 0);
        C.due("the heaviest", x.odds(0, 2, 40, 0), 1);
        x.tries(true);
        C.due("tires(300)", x.tires(300), 0);
        C.due("the meet goes on", x.count(4), 1);
        C.due("count(6)", x.count(6), 300);
        C.due("none FAILED", x.odds(0, 0, 8, 0), 900);
        C.due("one FAILED", x.odds(0, 0, 8, 1), 600);
        C.due("two FAILED", x.odds(0, 0, 8, 2), 300);
        C.due("no less than 0", x.odds(0, 1, 1, 1), 0);
        C.due("tires(301)", x.tires(301), -1);
        C.due("tires(-1)", x.tires(-1), -1);
        C.due("begins()", x.begins(), 1);
        C.due("begun anew", x.count(4), 0);
        C.due("TIRE stays", x.tires(0), 300);
        int[][] wrong = {{1, 0, 1, 0}, {-1, 0, 1, 0}, {0, 3, 1, 0}, {0, -1, 1, 0}, {0, 0, 0, 0}, {0, 0, 41, 0}, {0, 0, 1, 3}, {0, 0, 1, -1}};
        for (int[] w : wrong) {
            C.due("odds of wrong", x.odds(w[0], w[1], w[2], w[3]), -1);
        }
    }

    private static void lifter() {
        NextLoad x = with("80,5;20=500/10+2+3;20=500/11+1+0;20=500/12+1+0", "70,6" + HALF);
        long[] atFirst = {80, 5, 10, 2, 3, 0, 10, 1, 1, 1, 0, 0, -1};
        for (int what = 0; what < atFirst.length; what++) {
            C.due("lifter(0, 0, " + what + ")", x.lifter(0, 0, what), atFirst[what]);
        }
        C.due("lifter(0, 2, 2)", x.lifter(0, 2, 2), 12);
        C.due("another what", x.lifter(0, 0, -1), -1);
        C.due("another lift", x.lifter(0, 3, 0), -1);
        C.due("another lift", x.lifter(0, -1, 6), -1);
        for (int far : FAR) {
            C.due("another one", x.lifter(far, 0, 0), -1);
        }
        x.tries(false);
        C.due("ASKED behind a FAILED one", x.lifter(0, 0, 6), 13);
        C.due("LEAST behind a FAILED one", x.lifter(0, 0, 7), 10);
        C.due("not waiting", x.lifter(0, 0, 9), 0);
        C.due("LEAST is BAR", x.lifter(1, 0, 7), 10);
        x.tries(true);
        C.due("no CHANGES in ROUND 1", x.lifter(1, 0, 8), 0);
        C.due("BAR of a new ROUND", x.count(3), 0);
        C.due("LEAST behind a GOOD one", x.lifter(1, 0, 7), 11);
        C.due("BEST", x.lifter(1, 0, 5), 10);
        C.due("BEST of another LIFT", x.lifter(1, 1, 5), 0);
        C.due("sum", x.lifter(1, 0, 11), 10);
        x.tries(true);
        C.due("BAR", x.count(3), 11);
        C.due("LEAST of who waits", x.lifter(0, 0, 7), 11);
    }

    private static void calledOrderAsks() {
        NextLoad x = with("80,9" + HALF, "80,5" + HALF, "80,7;20=500/9+1+0" + TWO);
        C.due("called()", x.called(), 2);
        C.row("called()", x, 9, 500);
        C.due("order()", x.order(), 3);
        C.row("order()", x, 2, 1, 0);
        C.due("asks for what it ASKED", x.asks(2, 9), -4);
        C.due("asks", x.asks(2, 10), 0);
        C.due("asks once more", x.asks(2, 11), -3);
        C.due("of equal ones the least LOT", x.called(), 1);
        x.order();
        C.row("order()", x, 1, 2, 0);
        C.due("asks of no such one", x.asks(3, 10), -1);
        C.due("asks of no such one", x.asks(-1, 10), -1);
        C.due("asks for no LOAD", x.asks(0, 0), -1);
        C.due("asks for no LOAD", x.asks(0, 41), -1);
        x.tries(true);
        C.due("asks of who has tried", x.asks(1, 20), -2);
        C.due("asks for less than BAR", x.asks(0, 9), -4);
        C.due("asks for BAR: it is what it ASKED", x.asks(0, 10), -4);
        C.due("asks for 40", x.asks(0, 40), 0);
        C.due("called()", x.called(), 2);
        x.tries(false);
        C.due("called()", x.called(), 0);
        C.row("called()", x, 40, 0);
        x.order();
        C.row("order()", x, 0);
        x.tries(false);
        C.due("ROUND", x.count(2), 1);
        C.due("no TRY less for 40 by AGAIN 0", x.lifter(0, 0, 6), 40);
        x.order();
        C.row("order()", x, 2, 1, 0);
        C.due("none in ROUND 1", x.asks(0, 39), -3);
    }

    private static void triesAndTried() {
        NextLoad x = with("80,5;40=500/36+4+5;20=500/10+1+0;20=500/10+1+0", "70,6" + HALF);
        C.due("tries", x.tries(true), 1);
        C.row("tries", x, 10, 11);
        C.due("tries", x.tries(true), 0);
        C.row("tries", x, 36, 40);
        C.due("ROUND", x.count(2), 1);
        C.due("tries", x.tries(false), 1);
        C.row("tries", x, 11, 11);
        C.due("tries", x.tries(false), 0);
        C.row("above 40: none", x, 40, 0);
        C.due("no TRY to come", x.lifter(0, 0, 6), 0);
        C.due("no LEAST", x.lifter(0, 0, 7), 0);
        C.due("alone in ROUND 2", x.order(), 1);
        C.due("tries", x.tries(true), 1);
        C.row("behind ROUND 2: none", x, 11, 0);
        C.due("LIFT", x.count(1), 1);
        C.due("ROUND", x.count(2), 0);
        long[][] all = {{1, 0, 10, 1}, {0, 0, 36, 1}, {1, 0, 11, 0}, {0, 0, 40, 0}, {1, 0, 11, 1}};
        for (int k = 0; k < all.length; k++) {
            for (int what = 0; what < 4; what++) {
                C.due("tried(" + k + ", " + what + ")", x.tried(k, what), all[k][what]);
            }
        }
        C.due("count(4)", x.count(4), 5);
        C.due("count(5)", x.count(5), 3);
        C.due("no such TRY", x.tried(5, 0), -1);
        C.due("no such TRY", x.tried(-1, 0), -1);
        C.due("no such what", x.tried(0, 4), -1);
        C.due("no such what", x.tried(0, -1), -1);
        x.begins();
        C.due("none any more", x.tried(0, 0), -1);
    }

    private static void whoIsOut() {
        NextLoad x = with("80,5" + HALF, "70,6" + HALF);
        for (int i = 0; i < 6; i++) {
            C.due("tries", x.tries(i % 2 == 1), i % 2);
        }
        C.due("LIFT", x.count(1), 1);
        C.due("OUT", x.count(9), 1);
        C.due("OUT", x.lifter(0, 0, 10), 1);
        C.due("OUT: none ASKED", x.lifter(0, 0, 6), 0);
        C.due("order()", x.order(), 1);
        C.due("sum", x.lifter(1, 0, 11), 12);
        for (int i = 0; i < 3; i++) {
            C.due("tries", x.tries(false), 1);
        }
        C.due("OVER", x.count(1), 3);
        C.due("OVER: ROUND 0", x.count(2), 0);
        C.due("OVER: BAR 0", x.count(3), 0);
        C.due("OVER: no CHANGES", x.lifter(1, 0, 8), 0);
        C.due("all OUT", x.count(9), 3);
        C.due("BEST stays", x.lifter(1, 0, 5), 12);
        C.due("sum of who is OUT", x.lifter(1, 0, 11), 0);
        C.due("nobody is called", x.called(), -2);
        C.due("nobody tries", x.tries(true), -2);
        C.due("order()", x.order(), 0);
        C.due("asks", x.asks(0, 10), -2);
        C.due("plays", x.plays(1), -2);
        NextLoad y = with(SURE);
        for (int i = 0; i < 9; i++) {
            y.tries(i < 6);
        }
        C.due("none in LIFT 2: OUT", y.count(9), 1);
        C.due("none in LIFT 2: OVER", y.count(1), 3);
    }

    private static void place() {
        NextLoad x = with("80,9" + HALF, "80,5" + HALF, "70,7" + HALF);
        C.due("by BODY, LOT", x.place(0), 2);
        C.row("place", x, 2, 1, 0);
        C.due("place", x.place(2), 0);
        x.tries(false);
        x.tries(false);
        x.tries(true);
        C.due("by sum", x.place(0), 0);
        C.row("place", x, 0, 2, 1);
        for (int i = 0; i < 6; i++) {
            x.tries(x.called() == 1);
        }
        C.due("LIFT", x.count(1), 1);
        C.due("OUT is last", x.place(2), 2);
        C.row("place", x, 1, 0, 2);
        for (int far : FAR) {
            C.due("no such one", x.place(far), -1);
        }
    }

    private static void slotAndNeeds() {
        NextLoad x = with("80,5" + HALF, "70,6" + HALF, "75,4;20=500/12+1+0" + TWO);
        C.due("slot 0", x.slot(0, 0), 1);
        C.due("slot 1", x.slot(0, 1), 11);
        C.due("slot 2: behind the lesser LOT", x.slot(0, 2), 12);
        C.due("slot 3", x.slot(0, 3), -3);
        C.due("slot far", x.slot(0, Integer.MAX_VALUE), -3);
        C.due("slot -1", x.slot(0, -1), -1);
        C.due("slot of no such one", x.slot(3, 0), -1);
        C.due("slot 1 with like LOADS: the greater LOT is behind", x.slot(1, 1), 10);
        C.due("needs: BODY leads with like sums", x.needs(1, 0), 0);
        C.due("needs any", x.needs(0, 1), 1);
        C.due("needs itself", x.needs(0, 0), -1);
        C.due("needs no such one", x.needs(0, 3), -1);
        C.due("needs no such one", x.needs(-1, 0), -1);
        x.tries(true);
        C.due("slot of who has tried", x.slot(0, 0), -2);
        C.due("slot 0 from BAR on", x.slot(1, 0), 10);
        C.due("needs as much, BODY leading", x.needs(1, 0), 10);
        C.due("needs more, from BAR on", x.needs(2, 0), 10);
        C.due("AHEAD", x.needs(0, 2), 0);
        for (int i = 0; i < 5; i++) {
            x.tries(false);
        }
        C.due("ROUND", x.count(2), 2);
        x.tries(false);
        x.tries(false);
        C.due("none to come, but AHEAD", x.needs(0, 1), 0);
        C.due("none to come", x.needs(1, 0), -2);
        NextLoad y = with("80,5;40=500/40+1+0" + TWO, "70,6;40=500/40+1+0" + TWO);
        for (int i = 0; i < 2; i++) {
            y.tries(i == 1);
        }
        C.due("with like sums behind: with none", y.needs(0, 1), -3);
    }

    private static void plansReckoned() {
        NextLoad x = with(SURE, "70,6" + HALF);
        C.due("mass", x.mass(0), 30000);
        C.due("chance of 0", x.chance(0, 0), 1000000);
        C.due("chance of 30", x.chance(0, 30), 1000000);
        C.due("chance of 31", x.chance(0, 31), 0);
        C.due("chance of 121", x.chance(0, 121), 0);
        C.due("chance of 122", x.chance(0, 122), -1);
        C.due("chance of -1", x.chance(0, -1), -1);
        C.due("likeliest", x.likeliest(0), 30);
        C.row("likeliest", x, 1000000, 1000000);
        C.due("chance of 1: 7/8 thrice, cut each time", x.chance(1, 1), 669921);
        C.due("mass of no such one", x.mass(2), -1);
        C.due("likeliest of no such one", x.likeliest(-1), -1);
        for (int i = 0; i < 4; i++) {
            x.tries(x.called() != 1);
        }
        x.tries(false);
        C.due("doomed as it has FAILED thrice", x.lifter(1, 0, 6) == 0 && x.mass(1) == 0, true);
        C.due("doomed: likeliest", x.likeliest(1), 0);
        C.row("doomed: likeliest", x, 1000000, 0);
        C.due("doomed: reach of 0", x.reach(1, 0), 1000000);
        C.row("doomed: reach of 0", x, 0, 1000000);
    }

    private static void beatsAndWins() {
        NextLoad x = with(SURE, "80,4;10=1000/10+1+0;10=1000/10+1+0;10=1000/10+1+0", "90,6;10=500/10+1+0;10=1000/10+1+0;10=1000/10+1+0");
        C.due("behind with like sums", x.beats(0, 1), 0);
        C.due("AHEAD with like sums, by LOT", x.beats(1, 0), 1000000);
        C.due("AHEAD with like sums, by BODY", x.beats(0, 2), 1000000);
        C.due("beats only who is OUT", x.beats(2, 0), 0);
        C.due("wins", x.wins(0), 0);
        C.row("wins", x, 0, 1000000, 0);
        C.due("beats itself", x.beats(1, 1), -1);
        C.due("beats no such one", x.beats(0, 3), -1);
        C.due("beats no such one", x.beats(3, 0), -1);
        C.due("wins of no such one", x.wins(3), -1);
        C.row("ROW stays", x, 0, 1000000, 0);
        C.due("gold by choice", x.gold(1), 1000000);
        NextLoad alone = with("90,6;10=500/10+1+0;10=1000/10+1+0;10=1000/10+1+0");
        C.due("alone: 1/8 less", alone.wins(0), 875000);
        C.row("alone", alone, 875000);
    }

    private static void bombsAndOpener() {
        NextLoad x = with("80,5;10=900,20=400/12+3+1;38=500/38+2+2;10=1000/10+1+0");
        // 12: 800, 13: 750, 14: 700; 38 and 40 alone, 40 with no ODDS
        C.due("bombs", x.bombs(0), 1000000 - x.chance(0, 1));
        C.row("bombs", x, 15000, 500000, 0);
        x.tires(100);
        x.bombs(0);
        // 200 by 350 by 500
        C.row("bombs, tired", x, 35000, 500000, 0);
        C.due("bombs of no such one", x.bombs(1), -1);
        x.tires(0);
        C.due("opener: 100 thrice is 1000", x.opener(0, 0, 1000), 10);
        C.due("opener: 150 thrice is 3375", x.opener(0, 0, 3375), 11);
        C.due("opener: not yet 11", x.opener(0, 0, 3374), 10);
        C.due("opener: not even 10", x.opener(0, 0, 999), -2);
        C.due("opener of all", x.opener(0, 0, 1000000), 40);
        C.due("opener with none", x.opener(0, 2, 0), 10);
        C.due("opener of another p", x.opener(0, 0, -1), -1);
        C.due("opener of another p", x.opener(0, 0, 1000001), -1);
        C.due("opener of another lift", x.opener(0, 3, 0), -1);
        C.due("opener of no such one", x.opener(1, 0, 0), -1);
        x.tires(100);
        // 100, 200, 300 of 1000
        C.due("opener, tired", x.opener(0, 0, 6000), 10);
        C.due("opener, tired", x.opener(0, 0, 5999), -2);
    }

    private static void freeLoads() {
        NextLoad x = with(SURE, "70,6;10=500/10+1+0;10=1000/10+1+0;10=1000/10+1+0");
        C.due("heavy", x.heavy(0), 30000);
        C.row("heavy: of equal ones the least", x, 1, 30000);
        C.due("reach 30", x.reach(0, 30), 1000000);
        C.row("reach 30", x, 1, 1000000);
        C.due("reach 31", x.reach(0, 31), 0);
        C.row("reach 31", x, 1, 0);
        C.due("reach 0", x.reach(0, 0), 1000000);
        C.due("reach 121", x.reach(0, 121), 0);
        C.due("reach 122", x.reach(0, 122), -1);
        C.due("reach -1", x.reach(0, -1), -1);
        C.due("aim", x.aim(0, 1000000), 30);
        C.row("aim", x, 1000000);
        C.due("aim at all", x.aim(0, 1), 30);
        C.due("aim 0", x.aim(0, 0), -1);
        C.due("aim 1000001", x.aim(0, 1000001), -1);
        C.due("aim of no such one", x.aim(2, 1), -1);
        C.due("aim of one that fails at times", x.aim(1, 875000), 30);
        C.row("aim of one that fails at times", x, 875000);
        C.due("aim of one that fails at times", x.aim(1, 875001), 0);
        C.row("aim 0", x, 1000000);
        C.due("against: 1/8 alone is OUT", x.against(0, 1), 125000);
        C.row("against", x, 1, 125000);
        C.due("against itself", x.against(0, 0), -1);
        C.due("against no such one", x.against(0, 2), -1);
        C.due("gold", x.gold(1), 875000);
        C.row("gold", x, 10, 875000);
        C.due("gold of no such one", x.gold(2), -1);
        C.due("heavy of no such one", x.heavy(2), -1);
    }

    private static void freeNowAndThen() {
        NextLoad x = with(SURE, "70,6;40=1000/30+9+0;40=1000/30+1+0;40=1000/30+1+0");
        x.tries(true);
        C.due("BAR counts for this ROUND: LEAST", x.lifter(1, 0, 7), 10);
        x.tries(true);
        C.due("LEAST 11", x.lifter(0, 0, 7), 11);
        x.heavy(0);
        C.row("all above 10 fail: the least of them", x, 11, 30000);
        x.tries(false);
        x.tries(true);
        C.due("39 and 9: none to come", x.lifter(1, 0, 6), 0);
        C.due("39 and what comes", x.heavy(1), 119000);
        C.row("of a later LIFT", x, 1, 103000);
        for (int i = 0; i < 40 && x.count(1) < 3; i++) {
            x.tries(true);
        }
        C.due("OVER", x.count(1), 3);
        C.due("OVER: its TOTAL", x.heavy(1), 1000L * x.lifter(1, 0, 11));
        C.row("OVER: none", x, 0, 1000L * x.lifter(1, 0, 11));
        C.due("OVER: reach", x.reach(1, x.lifter(1, 0, 11)), 1000000);
        C.due("OVER: reach", x.reach(1, x.lifter(1, 0, 11) + 1), 0);
        C.due("OVER: aim", x.aim(1, 1), x.lifter(1, 0, 11));
        C.due("OVER: likeliest", x.likeliest(1), x.lifter(1, 0, 11));
        C.due("OVER: against", x.against(1, 0), 1000000);
        C.due("OVER: line", x.line(1, 0, true), 0);
        C.row("OVER: line", x);
        C.due("OVER: often", x.often(1, 50, 7), 50);
        C.row("OVER: often", x, 0, 50L * x.lifter(1, 0, 11));
        C.due("OVER: often", x.often(0, 50, 7), 0);
    }

    private static void lines() {
        NextLoad x = with(SURE);
        C.due("line of GOOD ones", x.line(0, 0, true), 9);
        C.row("line of GOOD ones", x, 1, 2, 10, 1, 2, 10, 1, 2, 10);
        C.due("line of FAILED ones", x.line(0, 0, false), 3);
        C.row("line of FAILED ones", x, 1, 1, 10);
        C.due("line by WIN", x.line(0, 1, true), 9);
        C.row("line by WIN: any TOTAL will do", x, 1, 2, 3, 1, 2, 3, 1, 2, 3);
        C.due("another aim", x.line(0, 2, true), -1);
        C.due("another aim", x.line(0, -1, true), -1);
        C.due("no such one", x.line(1, 0, true), -1);
        x.asks(0, 40);
        x.tries(true);
        C.due("made 40: none to come, LIFT 1 begins at once", x.count(1), 1);
        C.due("line from LIFT 1", x.line(0, 0, false), 3);
        C.row("line from LIFT 1", x, 1, 1, 10);
        C.due("line of who is OUT", outAtOnce().line(0, 0, true), 0);
    }

    private static NextLoad outAtOnce() {
        NextLoad x = with(SURE, "70,6" + HALF);
        while (x.count(1) == 0) {
            x.tries(x.called() == 1);
        }
        C.due("OUT", x.count(9), 1);
        return x;
    }

    private static void duel() {
        NextLoad x = with("70,1" + HALF, "80,2" + HALF, "90,3" + HALF);
        C.due("too early", x.duel(0, 1), -2);
        C.due("too early", x.bluff(0, 1, 0, 0), -2);
        C.due("NONE first", x.duel(0, 0), -1);
        while (x.count(1) < 2 || x.count(2) < 2) {
            x.tries(x.called() != 2 || x.count(1) < 2);
        }
        // a and b have 12, 12, 11 and ASKED for 12; a leads with like sums, and is called first
        C.due("CHANGES", x.lifter(0, 0, 8), 2);
        C.due("bluff with none", x.bluff(0, 1, 0, 0), 750000);
        C.row("bluff with none", x, 0, 0);
        C.due("bluff: b can go above", x.bluff(0, 1, 0, 1), 500000);
        C.row("bluff: b can go above", x, 0, 0);
        C.due("duel", x.duel(0, 1), 750000);
        C.row("duel: a goes behind b", x, 0, 13, 750000);
        C.due("the other side of it", x.duel(1, 0), 250000);
        C.row("the other side of it", x, 0, 13, 250000);
        for (int[] w : new int[][] {{0, 1, 3, 0}, {0, 1, 0, 3}, {0, 1, -1, 0}, {0, 1, 0, -1}, {0, 3, 0, 0}, {-1, 1, 0, 0}, {1, 1, 0, 0}}) {
            C.due("bluff of wrong", x.bluff(w[0], w[1], w[2], w[3]), -1);
        }
        C.due("duel of no such one", x.duel(0, 3), -1);
        C.row("ROW stays", x, 0, 13, 250000);
        // the third has none of LIFT 2 yet: OUT, if it FAILS; called at 10, ahead of all
        C.due("who may be OUT, no CHANGES", x.bluff(2, 0, 0, 0), 0);
        C.due("b alone OUT", x.bluff(0, 2, 0, 0), 1000000);
        C.row("b is called", x, 2, 0);
        C.due("tries", x.tries(true), 2);
        C.due("has tried", x.duel(0, 2), -3);
        C.due("has tried", x.bluff(2, 0, 1, 1), -3);
        C.due("NONE ahead of it", x.bluff(2, 0, 3, 1), -1);
    }

    /** LOADS 1 and 40, where there is no lesser or greater one. */
    private static void duelAtTheEdges() {
        String start = ";40=500/1+1+0;40=500/1+1+0;40=500/";
        NextLoad low = with("70,1" + start + "1+1+0", "80,2" + start + "1+1+0");
        NextLoad high = with("70,1" + start + "40+1+0", "80,2" + start + "40+1+0");
        for (NextLoad x : new NextLoad[] {low, high}) {
            while (x.count(1) < 2 || x.count(2) < 2) {
                x.tries(x.count(1) < 2);
            }
        }
        // both are OUT if they FAIL; a GOOD: like sums at most, a leads; a FAILED: never AHEAD
        C.due("both at 1, no CHANGES", low.bluff(0, 1, 0, 0), 500000);
        C.due("both at 1: b goes above, a GOOD", low.bluff(0, 1, 0, 1), 250000);
        C.due("both at 1, from the other side", low.bluff(1, 0, 0, 0), 250000);
        C.row("both at 1", low, 0, 0);
        C.due("both at 40", high.bluff(0, 1, 2, 2), 500000);
        C.row("both at 40", high, 0, 0);
        C.due("both at 40", high.duel(1, 0), 250000);
        C.row("both at 40", high, 0, 0, 250000);
        C.due("who has FAILED twice, tired", high.tires(200), 0);
        C.due("both at 40, 100 of 1000", high.duel(0, 1), 100000);
    }

    private static void drawn() {
        NextLoad x = with("80,5" + HALF, "70,6" + HALF);
        int r = 42;
        NextLoad y = with("80,5" + HALF, "70,6" + HALF);
        x.tries(true);
        y.tries(true);
        int tries = 0;
        while (y.called() >= 0) {
            r = r * 1103515245 + 12345;
            y.tries((r >>> 16) % 1000 < Checks.rowOf(y, 1));
            tries++;
        }
        C.due("often changes nothing: it is first or not", x.often(0, 1, 42) == 1, y.place(0) == 0 && y.lifter(0, 0, 10) == 0);
        C.row("often", x, y.lifter(0, 0, 10), y.lifter(0, 0, 11));
        C.due("count(4)", x.count(4), 1);
        C.due("plays", x.plays(42), tries);
        y.place(0);
        C.row("plays", x, Checks.rowOf(y, 0), Checks.rowOf(y, 1));
        C.due("OVER", x.count(1), 3);
        for (int k = 0; k < y.count(4); k++) {
            for (int what = 0; what < 4; what++) {
                C.due("tried", x.tried(k, what), y.tried(k, what));
            }
        }
        C.due("plays again", x.plays(42), -2);
        C.due("often of 0", x.often(0, 0, 1), -1);
        C.due("often of 51", x.often(0, 51, 1), -1);
        C.due("often of no such one", x.often(2, 1, 1), -1);
        NextLoad sure = with(SURE, "70,6;10=0/1+1+0" + TWO);
        C.due("often", sure.often(0, 50, -1), 50);
        C.row("often", sure, 0, 1500);
        C.due("often", sure.often(1, 50, -1), 0);
        C.row("often: OUT", sure, 50, 0);
        C.due("plays", sure.plays(-1), 12);
        C.row("plays", sure, 0, 1);
    }

    /** The greatest TOTAL, and as many TRIES as can be. */
    private static void greatest() {
        NextLoad x = with("80,5;40=1000/40+1+0;40=1000/40+1+0;40=1000/40+1+0");
        C.due("likeliest", x.likeliest(0), 120);
        C.row("likeliest", x, 1000000, 1000000);
        C.due("mass", x.mass(0), 120000);
        C.due("chance of 120", x.chance(0, 120), 1000000);
        C.due("reach 120", x.reach(0, 120), 1000000);
        C.row("reach 120", x, 1, 1000000);
        C.due("aim", x.aim(0, 1000000), 120);
        C.due("plays", x.plays(1), 3);
        C.due("OVER: likeliest", x.likeliest(0), 120);
        NextLoad full = new NextLoad();
        for (int i = 0; i < 6; i++) {
            C.due("enters", Checks.enter(full, "80," + i + ";40=1000/10+1+0;40=1000/10+1+0;40=1000/10+1+0"), i);
        }
        C.due("wins of the least LOT", full.wins(5), 0);
        C.row("wins", full, 1000000, 0, 0, 0, 0, 0);
        C.due("often", full.often(0, 50, 3), 50);
        C.row("often", full, 0, 1800);
        C.due("plays", full.plays(3), 54);
        C.row("plays", full, 0, 1, 2, 3, 4, 5);
        C.due("count(4)", full.count(4), 54);
        C.due("count(5)", full.count(5), 54);
        C.due("the last TRY", full.tried(53, 0), 5);
        C.due("no more of them", full.tried(54, 0), -1);
    }

    /** An answer below 0 leaves the ROW, and so does a call that tells of none. */
    private static void rowStays() {
        NextLoad x = with(SURE);
        x.called();
        C.row("called()", x, 10, 1000);
        x.asks(0, 9);
        x.odds(0, 0, 1, 0);
        x.mass(0);
        x.chance(0, 3);
        x.slot(0, 0);
        x.opener(0, 0, 0);
        x.tires(3);
        x.begins();
        x.plans(0, 0, 0, 10);
        x.place(1);
        x.likeliest(1);
        x.wins(1);
        x.bombs(-1);
        x.heavy(1);
        x.reach(0, 122);
        x.aim(0, 0);
        x.against(0, 0);
        x.gold(1);
        x.line(0, 2, true);
        x.duel(0, 1);
        x.often(0, 51, 1);
        Checks.enter(x, "x");
        Checks.enter(x, "80,6" + HALF);
        x.beats(0, 1);
        x.needs(0, 1);
        x.duel(0, 1);
        x.bluff(0, 1, 1, 1);
        x.leaves();
        C.row("ROW stays", x, 10, 1000);
        C.due("row far", Checks.throwsAt(x, Integer.MIN_VALUE), true);
        C.due("row far", Checks.throwsAt(x, Integer.MAX_VALUE), true);
        C.due("order()", x.order(), 1);
        C.row("order()", x, 0);
    }
}
