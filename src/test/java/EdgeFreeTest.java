/** Promises 26 to 31 at their edges: the best loads, looked back from the end. */
public final class EdgeFreeTest {
    private static final Checks C = new Checks("EdgeFreeTest");
    private static final String LIFT = ";20=500/10+1+0";
    private static final String TWO = LIFT + LIFT;
    /** Makes 1 at once, and nothing more. */
    private static final String ONES = ";1=1000/1+1+0;1=1000/1+1+0";
    private static final int[] FAR = {-1, 3, Integer.MIN_VALUE, Integer.MAX_VALUE};

    public static void main(String[] args) {
        refusedOfNoLifter();
        leastOrMore();
        fortyAtMost();
        sureFirst();
        ofEqualOnesTheLeast();
        cutAheadOfBeingCompared();
        barForThisRoundAlone();
        noneToComeInThisLift();
        atTheEnds();
        tired();
        changesAside();
        reachFrom0To121();
        aimAtItsEdges();
        aimRefused();
        against();
        againstRefused();
        gold();
        lineOfGoodOnes();
        lineOfFailedOnes();
        lineAsThen();
        lineByWin();
        lineRefused();
        C.end();
    }

    private static void refusedOfNoLifter() {
        Twins[] all = {new Twins(C, "middle", States::middle), new Twins(C, "OVER", States::over)};
        for (Twins t : all) {
            for (int far : FAR) {
                t.same("heavy(" + far + ")", x -> x.heavy(far), -1);
                t.same("reach(" + far + ", 1)", x -> x.reach(far, 1), -1);
                t.same("aim(" + far + ", 1)", x -> x.aim(far, 1), -1);
                t.same("gold(" + far + ")", x -> x.gold(far), -1);
                t.same("line(" + far + ", 0, true)", x -> x.line(far, 0, true), -1);
            }
        }
        Twins empty = new Twins(C, "empty", States::empty);
        empty.same("heavy(0)", x -> x.heavy(0), -1);
        empty.same("reach(0, 0)", x -> x.reach(0, 0), -1);
        empty.same("aim(0, 1)", x -> x.aim(0, 1), -1);
        empty.same("against(0, 1)", x -> x.against(0, 1), -1);
        empty.same("gold(0)", x -> x.gold(0), -1);
        empty.same("line(0, 0, true)", x -> x.line(0, 0, true), -1);
    }

    /** LIFT 2, ROUND 2: 2 so far, one TRY to come, at 10 by PLAN and as LEAST, OUT if it FAILS. */
    private static NextLoad lastTry(String table) {
        NextLoad x = States.with("80,5" + ONES + ";" + table + "/10+1+0");
        States.tryAll(x, "gffgffff");
        return x;
    }

    /** "of each TRY the LOAD, LEAST or more" */
    private static void leastOrMore() {
        // 10: 12000; 11: 900 of 13; below 10 it may not go
        new Twins(C, "10", () -> lastTry("10=1000,20=0")).tells("heavy(0)", x -> x.heavy(0), 12000, 10, 12000);
        new Twins(C, "above its TABLE", () -> lastTry("9=1000")).tells("heavy(0)", x -> x.heavy(0), 0, 10, 0);
        // made 10 in this LIFT: 11 at least, where 12 stands already
        Twins more = new Twins(C, "11", () -> {
            NextLoad x = States.with("80,5" + ONES + ";10=1000,11=100,12=60/10+1+0");
            States.tryAll(x, "gffgff");
            States.tryAll(x, "gf");
            return x;
        });
        // 11: 12000 + 100, 12: 12000 + 120
        more.tells("heavy(0)", x -> x.heavy(0), 12120, 12, 12100);
        C.due("LEAST", lastTry("10=1000").lifter(0, 0, 7), 10);
    }

    /** "40 at most" */
    private static void fortyAtMost() {
        new Twins(C, "40", () -> lastTry("40=1000")).tells("heavy(0)", x -> x.heavy(0), 42000, 40, 12000);
        new Twins(C, "39", () -> lastTry("39=1000,40=0")).tells("heavy(0)", x -> x.heavy(0), 41000, 39, 12000);
        Twins all = new Twins(C, "sure of all", () -> States.with("80,5" + States.three("40=1000/1+1+0")));
        all.tells("heavy(0)", x -> x.heavy(0), 120000, 1, 9000);
        all.tells("line(0, 0, true)", x -> x.line(0, 0, true), 9, 1, 2, 40, 1, 2, 40, 1, 2, 40);
        all.tells("line(0, 0, false)", x -> x.line(0, 0, false), 3, 1, 1, 40);
        // 42 in three TRIES of 500: 21000, 31500, 36750
        Twins half = new Twins(C, "500 up to 40", () -> States.with("80,5" + ONES + ";40=500/1+1+0"));
        half.tells("reach(0, 42)", x -> x.reach(0, 42), 875000, 1, 0);
        C.due("heavy(0)", half40().heavy(0), 36750);
        C.due("its next LOAD", Checks.rowOf(half40Asked(), 0), 40);
        half.tells("reach(0, 0)", x -> x.reach(0, 0), 1000000, 1, 1000000);
        half.tells("aim(0, 875000)", x -> x.aim(0, 875000), 42, 875000);
        half.tells("aim(0, 875001)", x -> x.aim(0, 875001), 0, 1000000);
        Twins last = new Twins(C, "LEAST 40", () -> {
            NextLoad x = States.with("80,5" + States.three("40=1000/39+1+0"));
            x.tries(true);
            return x;
        });
        last.tells("heavy(0)", x -> x.heavy(0), 120000, 40, 120000);
        last.tells("line of FAILED ones may stay at 40", x -> x.line(0, 0, false), 5, 40, 40, 1, 1, 40);
        last.tells("line of GOOD ones may not", x -> x.line(0, 0, true), 7, 40, 1, 2, 40, 1, 2, 40);
    }

    /** LIFT 2 begins. */
    private static NextLoad half40() {
        NextLoad x = States.with("80,5" + ONES + ";40=500/1+1+0");
        States.tryAll(x, "gffgff");
        return x;
    }

    private static NextLoad half40Asked() {
        NextLoad x = half40();
        x.heavy(0);
        return x;
    }

    /** Three TRIES: the first one to be sure of something, then twice what is not sure. */
    private static void sureFirst() {
        Twins t = new Twins(C, "sure of 10", () -> {
            NextLoad x = States.with("80,5" + ONES + ";10=1000,11=500,20=500/10+1+0");
            States.tryAll(x, "gffgff");
            return x;
        });
        // 10, then 20 twice: 22000, 22000 or 17000, 19500; by PLAN 10, 11, then 12 or 11: 13500, 12500
        t.tells("heavy(0)", x -> x.heavy(0), 19500, 10, 13000);
        t.tells("line(0, 0, true)", x -> x.line(0, 0, true), 3, 10, 20, 21);
        // FAILED: 10 again and 20 behind it, 17000, is more than 20 twice, 16500; at last 10, 12000, is more than 20, 11000
        t.tells("line(0, 0, false)", x -> x.line(0, 0, false), 3, 10, 10, 10);
        Twins once = new Twins(C, "sure up to 11, 10 FAILED", () -> {
            NextLoad x = States.with("80,5" + ONES + ";11=1000/10+1+0");
            States.tryAll(x, "gffgff");
            x.tries(false);
            return x;
        });
        // 10 again, as 11 is sure behind it
        once.tells("heavy(0)", x -> x.heavy(0), 13000, 10, 13000);
    }

    /** "(of equal ones the least LOAD)" */
    private static void ofEqualOnesTheLeast() {
        // 10: 12000; 14: 750 of 16 is 12000, 751 of 16 is 12016
        new Twins(C, "750", () -> lastTry("10=1000,11=750,14=750")).tells("heavy(0)", x -> x.heavy(0), 12000, 10, 12000);
        new Twins(C, "751", () -> lastTry("10=1000,11=751,14=751")).tells("heavy(0)", x -> x.heavy(0), 12016, 14, 12000);
        new Twins(C, "nothing", () -> States.with("80,5" + States.three("40=0/40+1+0"))).tells("heavy(0)", x -> x.heavy(0), 0, 1, 0);
        // all from 10 on up to 12 reach as much
        new Twins(C, "reach", () -> lastTry("15=600")).tells("reach(0, 12)", x -> x.reach(0, 12), 600000, 10, 600000);
        new Twins(C, "reach", () -> lastTry("15=600")).tells("reach(0, 13)", x -> x.reach(0, 13), 600000, 11, 0);
        new Twins(C, "reach", () -> lastTry("15=600")).tells("reach(0, 17)", x -> x.reach(0, 17), 600000, 15, 0);
        new Twins(C, "reach", () -> lastTry("15=600")).tells("reach(0, 18)", x -> x.reach(0, 18), 0, 10, 0);
    }

    /** "by which VALUE is greatest": VALUES are cut ones, and equal if they are so behind their cut */
    private static void cutAheadOfBeingCompared() {
        Twins cut = new Twins(C, "cut alike", () -> {
            NextLoad x = States.with("80,5;1=1000/1+1+0;10=1000,11=1,12=1/10+1+0;1=1/1+1+0");
            States.tryAll(x, "gff");
            x.tries(true);
            return x;
        });
        // LIFT 2 is worth 12, 23, 34 with 11 so far (three TRIES of 1 in 1000), 37 with 12, 40 with 13;
        // 11 by the last TRY of LIFT 1 is 34.003, 12 is 34.006: both cut to 34, as is what stands
        cut.tells("heavy(0)", x -> x.heavy(0), 34, 11, 34);
        cut.tells("line(0, 0, false)", x -> x.line(0, 0, false), 5, 11, 11, 1, 1, 1);
        cut.tells("line(0, 0, true)", x -> x.line(0, 0, true), 5, 11, 12, 1, 2, 3);
    }

    /** "BAR matters for the TRY of this ROUND alone" */
    private static void barForThisRoundAlone() {
        Twins waits = new Twins(C, "BAR 12, to TRY", () -> {
            NextLoad x = States.with("80,5;20=1000/12+1+0" + TWO, "70,6;10=1000/13+1+0" + ONES);
            x.tries(true);
            return x;
        });
        // all its LOADS are below BAR
        waits.tells("heavy(1)", x -> x.heavy(1), 0, 12, 0);
        waits.tells("reach(1, 1)", x -> x.reach(1, 1), 0, 12, 0);
        Twins done = new Twins(C, "BAR 15, has tried", () -> {
            NextLoad x = States.with("80,5;10=1000/5+1+0" + ONES, "70,6;20=1000/15+1+0" + TWO, "60,7;20=1000/16+1+0" + TWO);
            States.tryAll(x, "gg");
            return x;
        });
        // LEAST 6, not 15
        done.tells("heavy(0)", x -> x.heavy(0), 12000, 6, 9000);
        done.tells("line(0, 0, true)", x -> x.line(0, 0, true), 8, 6, 10, 1, 2, 3, 1, 2, 3);
        waits.tells("line(0, 0, false)", x -> x.line(0, 0, false), 5, 13, 20, 20, 20, 20);
    }

    /** "who has no TRY to come in this LIFT has none in thought"; "of a later LIFT, too (0: none)" */
    private static void noneToComeInThisLift() {
        Twins made = new Twins(C, "39 made, 48 asked", () -> {
            NextLoad x = States.with("80,5;40=1000/39+9+0;5=1000/5+1+0;5=1000/5+1+0", "70,6;40=500/39+1+0" + TWO);
            x.tries(true);
            return x;
        });
        // 40 would be there, but it has no TRY of it
        made.tells("heavy(0)", x -> x.heavy(0), 49000, 1, 49000);
        made.tells("reach(0, 50)", x -> x.reach(0, 50), 0, 1, 0);
        made.tells("reach(0, 49)", x -> x.reach(0, 49), 1000000, 1, 1000000);
        made.tells("aim(0, 1)", x -> x.aim(0, 1), 49, 1000000);
        made.tells("line(0, 0, true)", x -> x.line(0, 0, true), 6, 1, 2, 5, 1, 2, 5);
        made.tells("line(0, 0, false)", x -> x.line(0, 0, false), 3, 1, 1, 5);
        Twins doomed = new Twins(C, "none made, none to come", () -> {
            NextLoad x = States.with("80,5;40=1000/39+9+9" + TWO, "70,6;40=500/39+1+0" + TWO);
            x.tries(false);
            return x;
        });
        doomed.tells("heavy(0)", x -> x.heavy(0), 0, 0, 0);
        doomed.tells("reach(0, 0)", x -> x.reach(0, 0), 1000000, 0, 1000000);
        doomed.tells("reach(0, 1)", x -> x.reach(0, 1), 0, 0, 0);
        doomed.tells("aim(0, 1000000)", x -> x.aim(0, 1000000), 0, 1000000);
        doomed.tells("aim(0, 1)", x -> x.aim(0, 1), 0, 1000000);
        doomed.tells("gold(0)", x -> x.gold(0), 0, 0, 0);
        doomed.tells("against(0, 1)", x -> x.against(0, 1), 0, 0, 0);
        doomed.tells("line(0, 0, true)", x -> x.line(0, 0, true), 0);
        Twins one = new Twins(C, "1 made, none to come", () -> {
            NextLoad x = States.with("80,5;1=1000/1+1+0;5=1000/5+1+0;5=1000/5+1+0", "70,6;40=500/39+1+0" + TWO);
            States.tryAll(x, "gffff");
            return x;
        });
        one.tells("aim(0, 1)", x -> x.aim(0, 1), 11, 1000000);
        one.tells("heavy(0)", x -> x.heavy(0), 11000, 1, 11000);
        one.tells("reach(0, 11)", x -> x.reach(0, 11), 1000000, 1, 1000000);
        // the last LIFT: its last TRY is made, others have theirs to come
        Twins last = new Twins(C, "last, begun", States::lastBegun);
        // 0 made 10 with its last TRY: 12, 12, 10
        last.tells("heavy(0)", x -> x.heavy(0), 34000, 0, 34000);
        last.tells("line(0, 1, true)", x -> x.line(0, 1, true), 0);
    }

    private static void atTheEnds() {
        Twins out = new Twins(C, "one OUT", States::oneOut);
        out.tells("heavy(0)", x -> x.heavy(0), 0, 0, 0);
        out.tells("reach(0, 0)", x -> x.reach(0, 0), 1000000, 0, 1000000);
        out.tells("reach(0, 1)", x -> x.reach(0, 1), 0, 0, 0);
        out.tells("aim(0, 1)", x -> x.aim(0, 1), 0, 1000000);
        out.tells("against(0, 1)", x -> x.against(0, 1), 0, 0, 0);
        out.tells("gold(0)", x -> x.gold(0), 0, 0, 0);
        out.tells("line(0, 0, false)", x -> x.line(0, 0, false), 0);
        Twins over = new Twins(C, "OVER", States::over);
        // 12, 12, 10; 12, 12, 12; 40, 12, 12
        over.tells("heavy(0)", x -> x.heavy(0), 34000, 0, 34000);
        over.tells("heavy(2)", x -> x.heavy(2), 64000, 0, 64000);
        over.tells("reach(1, 36)", x -> x.reach(1, 36), 1000000, 0, 1000000);
        over.tells("reach(1, 37)", x -> x.reach(1, 37), 0, 0, 0);
        over.tells("aim(1, 1)", x -> x.aim(1, 1), 36, 1000000);
        over.tells("aim(1, 1000000)", x -> x.aim(1, 1000000), 36, 1000000);
        over.tells("against(1, 0)", x -> x.against(1, 0), 1000000, 0, 1000000);
        over.tells("against(0, 1)", x -> x.against(0, 1), 0, 0, 0);
        over.tells("gold(2)", x -> x.gold(2), 1000000, 0, 1000000);
        over.tells("gold(1)", x -> x.gold(1), 0, 0, 0);
        over.tells("line(2, 1, true)", x -> x.line(2, 1, true), 0);
    }

    private static void tired() {
        // FAILED twice: 1000 less 600 at 10, 400 of 12
        Twins twice = new Twins(C, "tired", () -> {
            NextLoad x = lastTry("10=1000,12=900");
            x.tires(300);
            return x;
        });
        // 10: 400 of 12, 11: 350 of 13, 12: 300 of 14
        twice.tells("heavy(0)", x -> x.heavy(0), 4800, 10, 4800);
        // three TRIES of 12 in LIFT 0: 500, 200 and none: 2400, 6000 + 1200
        Twins first = new Twins(C, "tired from LIFT 0 on", () -> {
            NextLoad x = States.with("80,5;10=500/10+1+0" + ONES);
            x.tires(300);
            return x;
        });
        first.tells("heavy(0)", x -> x.heavy(0), 7200, 10, 7200);
        first.tells("reach(0, 12)", x -> x.reach(0, 12), 600000, 10, 600000);
        // the same in LIFT 2
        Twins third = new Twins(C, "tired in LIFT 2", () -> {
            NextLoad x = States.with("80,5" + ONES + ";10=500/10+1+0");
            x.tires(300);
            return x;
        });
        third.tells("reach(0, 12)", x -> x.reach(0, 12), 600000, 1, 600000);
        third.tells("heavy(0)", x -> x.heavy(0), 7200, 1, 7200);
        third.tells("aim(0, 600000)", x -> x.aim(0, 600000), 12, 600000);
        // another LIFT: none FAILED in it
        Twins other = new Twins(C, "tired in LIFT 0", () -> {
            NextLoad x = States.with("80,5;1=1000/1+1+0;10=1000/10+1+0;10=1000/10+1+0");
            x.tires(300);
            x.tries(true);
            States.tryAll(x, "ff");
            return x;
        });
        other.tells("heavy(0)", x -> x.heavy(0), 21000, 1, 21000);
    }

    /** "(CHANGES aside ..)" */
    private static void changesAside() {
        NextLoad x = States.with("80,5;10=1000/5+1+0" + ONES);
        x.tries(true);
        C.due("no CHANGES", x.lifter(0, 0, 8), 0);
        C.due("10 in spite of that", x.heavy(0), 12000);
        C.row("6, then 10", x, 6, 9000);
    }

    /** "NONE: w is not 0 .. 121." */
    private static void reachFrom0To121() {
        Twins middle = new Twins(C, "middle", States::middle);
        for (int w : new int[] {-1, 122, Integer.MIN_VALUE, Integer.MAX_VALUE}) {
            middle.same("reach(0, " + w + ")", x -> x.reach(0, w), -1);
        }
        // FAILED at 10 twice: LEAST 10
        middle.tells("reach(0, 0)", x -> x.reach(0, 0), 1000000, 10, 1000000);
        middle.tells("reach(0, 121)", x -> x.reach(0, 121), 0, 10, 0);
        Twins all = new Twins(C, "sure of all", () -> States.with("80,5" + States.three("40=1000/40+1+0")));
        // OUT or not, 0 is there
        new Twins(C, "500 up to 40", EdgeFreeTest::half40).tells("reach(0, 0)", x -> x.reach(0, 0), 1000000, 1, 1000000);
        new Twins(C, "500 up to 40 thrice", () -> States.with("80,5" + States.three("40=500/9+1+0")))
            .tells("reach(0, 0)", x -> x.reach(0, 0), 1000000, 1, 1000000);
        all.tells("reach(0, 120)", x -> x.reach(0, 120), 1000000, 1, 1000000);
        all.tells("reach(0, 121)", x -> x.reach(0, 121), 0, 1, 0);
    }

    /** "The greatest w (0 .. 120) of which FREE VALUE of REACH is p (1 .. 1000000) or more; the ROW: that VALUE." */
    private static void aimAtItsEdges() {
        Twins two = new Twins(C, "600 or OUT", () -> lastTry("15=600"));
        two.tells("aim(0, 1)", x -> x.aim(0, 1), 17, 600000);
        two.tells("aim(0, 600000)", x -> x.aim(0, 600000), 17, 600000);
        two.tells("aim(0, 600001)", x -> x.aim(0, 600001), 0, 1000000);
        two.tells("aim(0, 1000000)", x -> x.aim(0, 1000000), 0, 1000000);
        Twins steps = new Twins(C, "steps", () -> lastTry("10=900,11=800,12=1"));
        steps.tells("aim(0, 1)", x -> x.aim(0, 1), 14, 1000);
        steps.tells("aim(0, 1000)", x -> x.aim(0, 1000), 14, 1000);
        steps.tells("aim(0, 1001)", x -> x.aim(0, 1001), 13, 800000);
        steps.tells("aim(0, 800001)", x -> x.aim(0, 800001), 12, 900000);
        steps.tells("aim(0, 900001)", x -> x.aim(0, 900001), 0, 1000000);
        Twins all = new Twins(C, "sure of all", () -> States.with("80,5" + States.three("40=1000/40+1+0")));
        all.tells("aim(0, 1)", x -> x.aim(0, 1), 120, 1000000);
        all.tells("aim(0, 1000000)", x -> x.aim(0, 1000000), 120, 1000000);
        Twins none = new Twins(C, "nothing", () -> States.with("80,5" + States.three("40=0/40+1+0")));
        none.tells("aim(0, 1)", x -> x.aim(0, 1), 0, 1000000);
        // each total from 1 up can be the greatest one
        for (int total = 3; total <= 120; total++) {
            int a = Math.min(40, total - 2);
            int b = Math.min(40, total - a - 1);
            NextLoad x = States.with(sure("80,5", a, b, total - a - b));
            C.due("up to " + total, x.aim(0, 1000000), total);
            C.row("up to " + total, x, 1000000);
        }
    }

    /** "NONE: another p." */
    private static void aimRefused() {
        Twins middle = new Twins(C, "middle", States::middle);
        for (int p : new int[] {0, -1, 1000001, Integer.MIN_VALUE, Integer.MAX_VALUE}) {
            middle.same("aim(0, " + p + ")", x -> x.aim(0, p), -1);
        }
    }

    private static String sure(String who, int a, int b, int c) {
        return who + ";" + a + "=1000/" + a + "+1+0;" + b + "=1000/" + b + "+1+0;" + c + "=1000/" + c + "+1+0";
    }

    /** "FREE VALUE of BEAT of another one (that by its PLAN); the ROW likewise." */
    private static void against() {
        // that one has 12 by its PLAN, though it could make 13
        String other = ",6" + ONES + ";11=1000/10+9+0";
        Twins like = new Twins(C, "lesser BODY", () -> States.with("80,5" + ONES + ";9=1000,10=500,11=400/9+1+0", "90" + other));
        // 10 in three TRIES (the first at 9 or less, or 10 at once): 7 of 8
        like.tells("against(0, 1)", x -> x.against(0, 1), 875000, 1, 750000);
        Twins more = new Twins(C, "greater BODY", () -> States.with("80,5" + ONES + ";9=1000,10=500,11=400/9+1+0", "70" + other));
        // 11 it must be: 400000, 640000, 784000; by PLAN 9, 10, 11: 500 of 400
        more.tells("against(0, 1)", x -> x.against(0, 1), 784000, 1, 200000);
        Twins sure = new Twins(C, "one sure to lead", () -> States.with(sure("80,5", 10, 10, 10), sure("80,6", 10, 10, 10)));
        sure.tells("against(0, 1)", x -> x.against(0, 1), 1000000, 1, 1000000);
        sure.tells("against(1, 0)", x -> x.against(1, 0), 0, 1, 0);
    }

    /** "NONE: they are one, too." */
    private static void againstRefused() {
        Twins middle = new Twins(C, "middle", States::middle);
        for (int i = 0; i < 3; i++) {
            int one = i;
            middle.same("against(" + i + ", " + i + ")", x -> x.against(one, one), -1);
        }
        for (int far : FAR) {
            middle.same("against(" + far + ", 0)", x -> x.against(far, 0), -1);
            middle.same("against(0, " + far + ")", x -> x.against(0, far), -1);
            middle.same("against(" + far + ", " + far + ")", x -> x.against(far, far), -1);
        }
    }

    /** "FREE VALUE of WIN (all others by PLAN); the ROW likewise." */
    private static void gold() {
        new Twins(C, "alone", () -> lastTry("15=600")).tells("gold(0)", x -> x.gold(0), 600000, 10, 600000);
        Twins three = new Twins(C, "three", () -> States.with(sure("80,5", 10, 10, 10), sure("80,6", 10, 10, 10), sure("80,7", 10, 10, 10)));
        three.tells("gold(0)", x -> x.gold(0), 1000000, 1, 1000000);
        three.tells("gold(1)", x -> x.gold(1), 0, 1, 0);
        three.tells("gold(2)", x -> x.gold(2), 0, 1, 0);
        NextLoad six = States.full();
        for (int i = 0; i < 6; i++) {
            C.due("six: at least what its PLAN is worth", six.gold(i) >= six.wins(i), true);
            C.due("six: no more TRIES than there are", six.line(i, 1, true) <= 9, true);
        }
    }

    /** "FREE LOADS of TRIES in a row, as all were GOOD": up to nine of them */
    private static void lineOfGoodOnes() {
        Twins steps = new Twins(C, "steps", () -> States.with("80,5" + States.three("3=1000/1+1+0")));
        // nothing is lost by the least one first; 3 must be the last
        steps.tells("line(0, 0, true)", x -> x.line(0, 0, true), 9, 1, 2, 3, 1, 2, 3, 1, 2, 3);
        Twins one = new Twins(C, "1 alone", () -> States.with("80,5" + States.three("1=1000/1+1+0")));
        // each as it would be chosen then: GOOD, so that 2 and 3 stand, which have no ODDS
        one.tells("line(0, 0, true)", x -> x.line(0, 0, true), 9, 1, 2, 3, 1, 2, 3, 1, 2, 3);
        Twins last = new Twins(C, "one TRY", () -> lastTry("10=1000,20=0"));
        last.tells("line(0, 0, true)", x -> x.line(0, 0, true), 1, 10);
        last.tells("line(0, 0, false)", x -> x.line(0, 0, false), 1, 10);
    }

    /** "or FAILED": until it is OUT */
    private static void lineOfFailedOnes() {
        Twins steps = new Twins(C, "steps", () -> States.with("80,5" + States.three("3=1000/1+1+0")));
        steps.tells("line(0, 0, false)", x -> x.line(0, 0, false), 3, 1, 1, 3);
        Twins made = new Twins(C, "1 made", () -> {
            NextLoad x = States.with("80,5" + States.three("3=1000/1+1+0"));
            x.tries(true);
            return x;
        });
        // BEST 1 stands: on to LIFT 1, in which it is OUT
        made.tells("line(0, 0, false)", x -> x.line(0, 0, false), 5, 2, 3, 1, 1, 3);
        made.tells("line(0, 0, true)", x -> x.line(0, 0, true), 8, 2, 3, 1, 2, 3, 1, 2, 3);
        Twins failed = new Twins(C, "2 FAILED", () -> {
            NextLoad x = States.with("80,5;3=1000/2+1+0" + States.three("3=1000/1+1+0").substring(13));
            x.tries(false);
            return x;
        });
        failed.tells("line(0, 0, false)", x -> x.line(0, 0, false), 2, 2, 3);
        failed.tells("line(0, 0, true)", x -> x.line(0, 0, true), 8, 2, 3, 1, 2, 3, 1, 2, 3);
    }

    /** LIFT 2, ROUND 1, FAILED at 5, TIRE 300. */
    private static NextLoad tiredAtFive(int odds) {
        NextLoad x = States.with("80,5" + ONES + ";5=900,6=" + odds + ",10=" + odds + "/5+1+0");
        x.tires(300);
        States.tryAll(x, "gffgfff");
        return x;
    }

    /** "each as it would be chosen then": as tired, and with as great a LEAST as then */
    private static void lineAsThen() {
        // 5 (600), then 10 (400) if GOOD: 9000, else 5 (300): 2100, which is more than 10 (100): 1200; 10 at once: 5520
        Twins low = new Twins(C, "700", () -> tiredAtFive(700));
        low.tells("heavy(0)", x -> x.heavy(0), 6240, 5, 5280);
        low.tells("line(0, 0, false)", x -> x.line(0, 0, false), 2, 5, 5);
        low.tells("line(0, 0, true)", x -> x.line(0, 0, true), 2, 5, 10);
        // 10 (470), then 10 again (170): 2040, though 5 (300) would be more: 6721.2; 5 at first: 6450
        Twins high = new Twins(C, "770", () -> tiredAtFive(770));
        high.tells("heavy(0)", x -> x.heavy(0), 6721, 10, 5322);
        high.tells("line(0, 0, false)", x -> x.line(0, 0, false), 2, 10, 10);
        high.tells("line(0, 0, true)", x -> x.line(0, 0, true), 2, 10, 11);
    }

    /** "by AIM 0: MASS, 1: WIN" */
    private static void lineByWin() {
        Twins alone = new Twins(C, "alone", () -> States.with("80,5" + States.three("3=1000/1+1+0")));
        // any TOTAL wins
        alone.tells("line(0, 1, true)", x -> x.line(0, 1, true), 9, 1, 2, 3, 1, 2, 3, 1, 2, 3);
        alone.tells("line(0, 1, false)", x -> x.line(0, 1, false), 3, 1, 1, 1);
        Twins two = new Twins(C, "two", () -> States.with("80,5" + ONES + ";10=1000,20=500/10+1+0", "70,6" + ONES + ";14=1000/14+1+0"));
        // 14 do not win, 15 do: at 750 it is best to try 15 as often as it goes
        two.tells("line(0, 1, false)", x -> x.line(0, 1, false), 3, 1, 1, 1);
        NextLoad x = States.with("80,5" + ONES + ";10=1000,20=500/10+1+0", "70,6" + ONES + ";14=1000/14+1+0");
        while (x.count(1) < 2) {
            x.tries(x.lifter(x.called(), x.count(1), 5) == 0);
        }
        C.due("LIFT 2: GOOD ones", x.line(0, 1, true), 3);
        C.due("a lesser one first, which costs a TRY, is no better", Checks.rowOf(x, 0), 15);
        C.due("LIFT 2: FAILED ones", x.line(0, 1, false), 3);
        C.row("15 each time", x, 15, 15, 15);
    }

    /** "NONE: another aim." */
    private static void lineRefused() {
        Twins middle = new Twins(C, "middle", States::middle);
        for (int aim : new int[] {-1, 2, Integer.MIN_VALUE, Integer.MAX_VALUE}) {
            middle.same("line(0, " + aim + ", true)", x -> x.line(0, aim, true), -1);
            middle.same("line(0, " + aim + ", false)", x -> x.line(0, aim, false), -1);
        }
        new Twins(C, "one OUT", States::oneOut).same("line(0, 2, true)", x -> x.line(0, 2, true), -1);
    }
}
