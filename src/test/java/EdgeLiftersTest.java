/** Promises 5 to 10 at their edges: LIFTERS leave and plan, TIRE, ODDS, what a LIFTER is. */
public final class EdgeLiftersTest {
    private static final Checks C = new Checks("EdgeLiftersTest");
    private static final String THREE = States.three("20=500/10+1+0");

    public static void main(String[] args) {
        leavesUpToNone();
        plansAtTheirEdges();
        plansRefused();
        plansBeginAnew();
        tiresAtItsEdges();
        begins();
        oddsOfATable();
        oddsBetweenTwoPoints();
        oddsAreTired();
        oddsRefused();
        lifterRefused();
        lifterByLift();
        C.end();
    }

    /** "The last LIFTER goes; THE MEET begins anew: how many are left. -2: there is none." */
    private static void leavesUpToNone() {
        new Twins(C, "empty", States::empty).same("leaves()", NextLoad::leaves, -2);
        NextLoad x = States.full();
        C.due("has begun", x.count(4), 1);
        for (int left = 5; left >= 0; left--) {
            C.due("leaves()", x.leaves(), left);
            C.due("LIFTERS", x.count(0), left);
            C.due("begun anew", x.count(4), 0);
            C.due("the last one is gone", x.lifter(left, 0, 0), -1);
            C.due("those ahead of it stay", left == 0 ? 0 : x.lifter(left - 1, 0, 1), Math.max(0, left - 1));
            x.tries(true);
        }
        C.due("no more", x.leaves(), -2);
        C.due("without LIFTERS: LIFT", x.count(1), 0);
        C.due("without LIFTERS: ROUND", x.count(2), 0);
        C.due("without LIFTERS: called()", x.called(), -2);
        C.due("THE TEXT stays", x.count(8), States.BEGUN.length());
        NextLoad tired = States.middle();
        tired.leaves();
        C.due("TIRE stays", tired.count(6), 50);
        C.due("BAR", tired.count(3), 0);
        NextLoad over = States.over();
        NextLoad out = States.oneOut();
        out.leaves();
        C.due("nobody OUT any more", out.count(9), 0);
        C.due("BESTS are gone", out.lifter(1, 0, 5), 0);
        C.due("leaves() behind the end", over.leaves(), 2);
        C.due("LIFT", over.count(1), 0);
        C.due("OUT", over.count(9), 0);
    }

    /** OPEN 1 .. 40, MORE 1 .. 9, AGAIN 0 .. 9: "becomes v: what it was" */
    private static void plansAtTheirEdges() {
        int[] least = {1, 1, 0};
        int[] most = {40, 9, 9};
        int[] told = {10, 1, 0};
        for (int i = 0; i < 2; i++) {
            int one = i;
            for (int lift = 0; lift < 3; lift++) {
                int l = lift;
                for (int what = 0; what < 3; what++) {
                    int w = what;
                    String call = "plans(" + i + ", " + lift + ", " + what + ", ..)";
                    NextLoad x = States.fresh();
                    C.due(call + " least", x.plans(i, lift, what, least[what]), told[what]);
                    C.due(call + " most", x.plans(i, lift, what, most[what]), least[what]);
                    C.due(call + " as it is", x.plans(i, lift, what, most[what]), most[what]);
                    C.due(call + " is it", x.lifter(i, lift, what + 2), most[what]);
                    for (int other = 0; other < 27; other++) {
                        boolean it = other / 9 == i && other / 3 % 3 == lift && other % 3 == what;
                        // of LIFTER 2 the first LIFT is told otherwise
                        if (!it && other / 3 != 6) {
                            C.due(call + " leaves others", x.lifter(other / 9, other / 3 % 3, other % 3 + 2), told[other % 3]);
                        }
                    }
                    Twins fresh = new Twins(C, "middle", States::middle);
                    fresh.same(call + " below", y -> y.plans(one, l, w, least[w] - 1), -1);
                    fresh.same(call + " above", y -> y.plans(one, l, w, most[w] + 1), -1);
                }
            }
        }
    }

    /** "NONE: another what, v."; no such LIFTER, LIFT, too */
    private static void plansRefused() {
        Twins middle = new Twins(C, "middle", States::middle);
        for (int far : new int[] {-1, 3, 4, Integer.MIN_VALUE, Integer.MAX_VALUE}) {
            middle.same("plans(" + far + ", 0, 0, 1)", x -> x.plans(far, 0, 0, 1), -1);
            middle.same("plans(0, " + far + ", 0, 1)", x -> x.plans(0, far, 0, 1), -1);
            middle.same("plans(0, 0, " + far + ", 1)", x -> x.plans(0, 0, far, 1), -1);
        }
        for (int far : new int[] {Integer.MIN_VALUE, Integer.MAX_VALUE}) {
            for (int what = 0; what < 3; what++) {
                int w = what;
                middle.same("plans(0, 0, " + what + ", " + far + ")", x -> x.plans(0, 0, w, far), -1);
            }
        }
        new Twins(C, "empty", States::empty).same("plans(0, 0, 0, 1)", x -> x.plans(0, 0, 0, 1), -1);
    }

    /** "THE MEET begins anew", though it were for what was */
    private static void plansBeginAnew() {
        NextLoad x = States.middle();
        C.due("plans", x.plans(0, 2, 1, 1), 1);
        C.due("TRIES", x.count(4), 0);
        C.due("BAR", x.count(3), 0);
        C.due("ROUND", x.count(2), 0);
        C.due("CHANGES", x.lifter(1, 0, 8), 1);
        C.due("TIRE stays", x.count(6), 50);
        NextLoad y = States.over();
        y.plans(0, 0, 0, 40);
        C.due("no longer OVER", y.count(1), 0);
        C.due("ASKED", y.lifter(0, 0, 6), 40);
        NextLoad out = States.oneOut();
        out.plans(2, 2, 2, 0);
        C.due("nobody OUT any more", out.count(9), 0);
        C.due("ASKED", out.lifter(0, 0, 6), 10);
    }

    /** "TIRE becomes e (THE MEET goes on): what it was. NONE: another e."; TIRE 0 .. 300 */
    private static void tiresAtItsEdges() {
        NextLoad x = States.middle();
        C.due("tires(300)", x.tires(300), 50);
        C.due("tires(0)", x.tires(0), 300);
        C.due("tires(0)", x.tires(0), 0);
        C.due("goes on: TRIES", x.count(4), 4);
        C.due("goes on: ROUND", x.count(2), 1);
        C.due("goes on: BAR", x.count(3), 10);
        Twins middle = new Twins(C, "middle", States::middle);
        for (int e : new int[] {-1, 301, Integer.MIN_VALUE, Integer.MAX_VALUE}) {
            middle.same("tires(" + e + ")", y -> y.tires(e), -1);
        }
        NextLoad none = new NextLoad();
        C.due("without LIFTERS", none.tires(300), 0);
        C.due("without LIFTERS", none.count(6), 300);
    }

    /** "THE MEET begins anew: how many LIFTERS." */
    private static void begins() {
        new Twins(C, "empty", States::empty).same("begins()", NextLoad::begins, 0);
        new Twins(C, "fresh", States::fresh).same("begins()", NextLoad::begins, 3);
        NextLoad x = States.full();
        C.due("begins()", x.begins(), 6);
        C.due("TRIES", x.count(4), 0);
        C.due("none any more", x.tried(0, 0), -1);
        NextLoad y = States.over();
        C.due("begins() when it is OVER", y.begins(), 3);
        for (int i = 0; i < 9; i++) {
            C.due("BESTS are gone", y.lifter(i / 3, i % 3, 5), 0);
        }
        NextLoad out = States.oneOut();
        out.begins();
        C.due("nobody OUT any more", out.count(9), 0);
        C.due("all are to TRY", out.order(), 3);
        C.due("LIFT", y.count(1), 0);
        C.due("OUT", y.count(9), 0);
        C.due("CHANGES", y.lifter(0, 0, 8), 1);
        C.due("THE TEXT stays", y.count(8), States.BEGUN.length());
        C.row("the ROW stays", y, 2, 1, 0);
    }

    /** "up to the first POINT its ODDS, behind the last one 0" */
    private static void oddsOfATable() {
        NextLoad x = States.with("80,5;20=500/1+1+0;1=1000/1+1+0;40=1/1+1+0",
            "80,6;1=1000,2=999,3=998,4=4,39=4,40=0/1+1+0;2=7,3=7/1+1+0;38=1000,39=1000,40=1000/1+1+0");
        C.due("one POINT: 1", x.odds(0, 0, 1, 0), 500);
        C.due("one POINT: at it", x.odds(0, 0, 20, 0), 500);
        C.due("one POINT: behind it", x.odds(0, 0, 21, 0), 0);
        C.due("one POINT: 40", x.odds(0, 0, 40, 0), 0);
        C.due("POINT at 1", x.odds(0, 1, 1, 0), 1000);
        C.due("POINT at 1: behind it", x.odds(0, 1, 2, 0), 0);
        C.due("POINT at 40: 1", x.odds(0, 2, 1, 0), 1);
        C.due("POINT at 40", x.odds(0, 2, 40, 0), 1);
        int[] six = {1000, 999, 998, 4, 4, 4};
        for (int load = 1; load <= 6; load++) {
            C.due("six POINTS: " + load, x.odds(1, 0, load, 0), six[load - 1]);
        }
        C.due("six POINTS: 38", x.odds(1, 0, 38, 0), 4);
        C.due("six POINTS: 39", x.odds(1, 0, 39, 0), 4);
        C.due("six POINTS: 40", x.odds(1, 0, 40, 0), 0);
        C.due("like ODDS: ahead", x.odds(1, 1, 1, 0), 7);
        C.due("like ODDS: the last", x.odds(1, 1, 3, 0), 7);
        C.due("like ODDS: behind", x.odds(1, 1, 4, 0), 0);
        C.due("sure at 40", x.odds(1, 2, 40, 0), 1000);
        // a LIFTER in the place of one that left has nothing of that one's TABLES
        x.leaves();
        C.due("another one", Checks.enter(x, "80,6" + States.three("2=9/1+1+0")), 1);
        C.due("its TABLE", x.odds(1, 2, 2, 0), 9);
        C.due("behind its last POINT", x.odds(1, 2, 3, 0), 0);
        C.due("behind its last POINT", x.odds(1, 2, 40, 0), 0);
    }

    /** "between two POINTS the first one's ODDS less .. times .. by .., cut" */
    private static void oddsBetweenTwoPoints() {
        NextLoad x = States.with("80,5;10=10,13=0/1+1+0;1=1000,40=0/1+1+0;10=7,13=5,40=4/1+1+0");
        // 10 by 3 is 3, 20 by 3 is 6
        int[] first = {10, 7, 4, 0, 0};
        for (int i = 0; i < first.length; i++) {
            C.due("load " + (10 + i), x.odds(0, 0, 10 + i, 0), first[i]);
        }
        // 1000 by 39 is 25, 38000 by 39 is 974, 19000 by 39 is 487
        C.due("just behind the first", x.odds(0, 1, 2, 0), 975);
        C.due("between", x.odds(0, 1, 20, 0), 513);
        C.due("just ahead of the second", x.odds(0, 1, 39, 0), 26);
        // 2 by 3 is 0, 4 by 3 is 1; 26 by 27 is 0
        C.due("less than 1 less", x.odds(0, 2, 11, 0), 7);
        C.due("1 less", x.odds(0, 2, 12, 0), 6);
        C.due("the second POINT", x.odds(0, 2, 13, 0), 5);
        C.due("less than 1 less up to the third", x.odds(0, 2, 39, 0), 5);
        C.due("the third", x.odds(0, 2, 40, 0), 4);
    }

    /** "less by TIRE for each TRY of that LIFT that FAILED ahead of it, 0 at least"; "behind f (0 .. 2) that FAILED" */
    private static void oddsAreTired() {
        NextLoad x = States.with("80,5;1=601,2=600,3=599,4=301,5=300,6=299/1+1+0;40=1000/1+1+0;1=0/1+1+0");
        x.tires(300);
        int[][] due = {{601, 301, 1}, {600, 300, 0}, {599, 299, 0}, {301, 1, 0}, {300, 0, 0}, {299, 0, 0}, {0, 0, 0}};
        for (int load = 1; load <= due.length; load++) {
            for (int f = 0; f < 3; f++) {
                C.due("odds(0, 0, " + load + ", " + f + ")", x.odds(0, 0, load, f), due[load - 1][f]);
            }
        }
        C.due("none to lose", x.odds(0, 2, 1, 2), 0);
        x.tires(1);
        C.due("TIRE 1", x.odds(0, 0, 1, 2), 599);
        C.due("called()", x.called(), 0);
        C.row("none FAILED", x, 1, 601);
        x.tries(false);
        x.called();
        C.row("one FAILED", x, 1, 600);
        x.tries(true);
        x.called();
        C.row("a GOOD one tires nobody", x, 2, 599);
        x.tries(false);
        x.called();
        C.row("another LIFT: none FAILED in it", x, 1, 1000);
        x.tries(false);
        x.tries(false);
        x.tires(300);
        x.called();
        C.row("two FAILED", x, 1, 400);
        C.due("odds() is told how many FAILED", x.odds(0, 1, 1, 0), 1000);
    }

    /** "NONE: another f, too."; no such LIFTER, LIFT, LOAD */
    private static void oddsRefused() {
        Twins middle = new Twins(C, "middle", States::middle);
        middle.same("odds(0, 0, 1, 0)", x -> x.odds(0, 0, 1, 0), 500);
        middle.same("odds(2, 2, 40, 2)", x -> x.odds(2, 2, 40, 2), 0);
        for (int far : new int[] {-1, 3, Integer.MIN_VALUE, Integer.MAX_VALUE}) {
            middle.same("odds(" + far + ", 0, 1, 0)", x -> x.odds(far, 0, 1, 0), -1);
            middle.same("odds(0, " + far + ", 1, 0)", x -> x.odds(0, far, 1, 0), -1);
            middle.same("odds(0, 0, 1, " + far + ")", x -> x.odds(0, 0, 1, far), -1);
        }
        for (int far : new int[] {-1, 0, 41, Integer.MIN_VALUE, Integer.MAX_VALUE}) {
            middle.same("odds(0, 0, " + far + ", 0)", x -> x.odds(0, 0, far, 0), -1);
        }
        new Twins(C, "empty", States::empty).same("odds(0, 0, 1, 0)", x -> x.odds(0, 0, 1, 0), -1);
    }

    /** "NONE: another what."; no such LIFTER, LIFT: for each what */
    private static void lifterRefused() {
        Twins middle = new Twins(C, "middle", States::middle);
        for (int far : new int[] {-1, 12, Integer.MIN_VALUE, Integer.MAX_VALUE}) {
            middle.same("lifter(0, 0, " + far + ")", x -> x.lifter(0, 0, far), -1);
        }
        NextLoad x = States.middle();
        for (int what = 0; what < 12; what++) {
            for (int far : new int[] {-1, 3, Integer.MIN_VALUE, Integer.MAX_VALUE}) {
                C.due("lifter(" + far + ", 0, " + what + ")", x.lifter(far, 0, what), -1);
                C.due("lifter(0, " + far + ", " + what + ")", x.lifter(0, far, what), -1);
            }
        }
        Twins empty = new Twins(C, "empty", States::empty);
        for (int what = 0; what < 12; what++) {
            int w = what;
            empty.same("lifter(0, 0, " + what + ")", y -> y.lifter(0, 0, w), -1);
        }
        for (int what = 0; what < 12; what++) {
            int w = what;
            middle.same("lifter(1, 0, " + what + ")", y -> y.lifter(1, 0, w), new int[] {70, 4, 10, 1, 0, 11, 12, 12, 0, 1, 0, 11}[w]);
        }
    }

    /** "(2 .. 5 in a LIFT)": others are the same in each */
    private static void lifterByLift() {
        NextLoad x = States.with("80,5;20=500/10+1+0;20=500/11+2+1;20=500/12+3+2");
        for (int lift = 0; lift < 3; lift++) {
            C.due("OPEN", x.lifter(0, lift, 2), 10 + lift);
            C.due("MORE", x.lifter(0, lift, 3), 1 + lift);
            C.due("AGAIN", x.lifter(0, lift, 4), lift);
        }
        States.tryAll(x, "ggf");
        States.tryAll(x, "fgg");
        States.tryAll(x, "fg");
        int[] bests = {11, 14, 14};
        int[] others = {80, 5, 17, 15, 2, 1, 0, 39};
        for (int lift = 0; lift < 3; lift++) {
            C.due("BEST of " + lift, x.lifter(0, lift, 5), bests[lift]);
            for (int i = 0; i < others.length; i++) {
                int what = i < 2 ? i : i + 4;
                C.due("lifter(0, " + lift + ", " + what + ")", x.lifter(0, lift, what), others[i]);
            }
        }
    }
}
