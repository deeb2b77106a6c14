/** THE MEET (Terms 1) and promises 11 to 18 at their edges. */
public final class EdgeMeetTest {
    private static final Checks C = new Checks("EdgeMeetTest");
    private static final String LIFT = ";20=500/10+1+0";
    private static final String TWO = LIFT + LIFT;
    private static final String THREE = TWO + LIFT;
    private static final int[] FAR = {-1, 3, Integer.MIN_VALUE, Integer.MAX_VALUE};

    public static void main(String[] args) {
        askedUpTo40();
        askedBehindRoundTwo();
        calledByLoadThenLot();
        roundsAndLifts();
        outBehindTheLiftAlone();
        outInTheLastLift();
        overAtLast();
        withoutLifters();
        goesOnAtOnce();
        allOutAtOnce();
        best();
        bar();
        least();
        changes();
        ahead();
        aheadOfThoseWhoAreOut();
        called();
        order();
        asksAtItsEdges();
        asksWhichAnswerFirst();
        tries();
        tried();
        place();
        slot();
        slotRefused();
        needs();
        needsRefused();
        C.end();
    }

    /** "x and MORE, if it was GOOD, else x and AGAIN; above 40 .. there is no TRY to come in that LIFT" */
    private static void askedUpTo40() {
        int[][] plans = {{31, 9, 9, 40, 40}, {32, 9, 9, 0, 0}, {32, 8, 9, 40, 0}, {32, 9, 8, 0, 40}, {39, 1, 1, 40, 40},
            {39, 2, 2, 0, 0}, {40, 1, 0, 0, 40}, {40, 1, 1, 0, 0}, {40, 9, 9, 0, 0}};
        for (int[] p : plans) {
            for (int good = 0; good < 2; good++) {
                int then = good == 1 ? p[3] : p[4];
                // the second one keeps the LIFT open
                NextLoad x = States.with("80,5;40=500/" + p[0] + "+" + p[1] + "+" + p[2] + TWO, "80,6;40=500/40+1+0" + TWO);
                String name = p[0] + "+" + p[1] + "+" + p[2] + (good == 1 ? " GOOD" : " FAILED");
                C.due(name, x.tries(good == 1), 0);
                C.row(name, x, p[0], then);
                C.due(name + ": ASKED", x.lifter(0, 0, 6), then);
                C.due(name + ": LEAST", x.lifter(0, 0, 7), then == 0 ? 0 : p[0] + good);
                C.due(name + ": has tried", x.lifter(0, 0, 9), 0);
                x.tries(false);
                C.due(name + ": ROUND", x.count(2), 1);
                C.due(name + ": to come in ROUND 1", x.lifter(0, 0, 9), then == 0 ? 0 : 1);
                C.due(name + ": those to TRY", x.order(), then == 0 ? 1 : 2);
            }
        }
    }

    /** "or behind ROUND 2: there is no TRY to come in that LIFT" */
    private static void askedBehindRoundTwo() {
        for (String how : new String[] {"fff", "ffg", "ggg"}) {
            NextLoad x = States.with("80,5" + THREE, "80,6;40=500/40+1+0" + TWO);
            for (int i = 0; i < 3; i++) {
                x.tries(how.charAt(i) == 'g');
                C.due(how + ": ASKED", x.lifter(0, 0, 6) == 0, i == 2);
                if (i < 2) {
                    x.tries(false);
                }
            }
            C.due(how + ": still LIFT 0", x.count(1), 0);
            C.due(how + ": LEAST", x.lifter(0, 0, 7), 0);
            C.due(how + ": not to TRY", x.lifter(0, 0, 9), 0);
            x.tries(true);
            C.due(how + ": OPEN at the beginning of each LIFT", x.lifter(0, 0, 6), how.equals("fff") ? 0 : 10);
        }
    }

    /** "that one is CALLED that ASKED for the least LOAD, of equal ones the least LOT" */
    private static void calledByLoadThenLot() {
        NextLoad x = States.with("80,99" + THREE, "70,50" + THREE, "90,0" + THREE, "60,51;20=500/9+1+0" + TWO);
        C.due("the least LOAD, whatever its LOT", x.called(), 3);
        x.order();
        C.row("the least LOT of equal ones, whatever BODY", x, 3, 2, 1, 0);
        x.asks(0, 9);
        C.due("of equal ones the least LOT", x.called(), 3);
        x.asks(3, 10);
        C.due("a lesser LOAD", x.called(), 0);
        x.order();
        C.row("51 is behind 50", x, 0, 2, 1, 3);
    }

    /** "When nobody is CALLED the next ROUND begins, behind ROUND 2 the next LIFT" */
    private static void roundsAndLifts() {
        NextLoad x = States.with("80,5" + THREE, "80,6" + THREE);
        for (int lift = 0; lift < 3; lift++) {
            for (int round = 0; round < 3; round++) {
                for (int i = 0; i < 2; i++) {
                    C.due("LIFT", x.count(1), lift);
                    C.due("ROUND", x.count(2), round);
                    C.due("each tries once in a ROUND", x.tries(true), i);
                }
            }
        }
        C.due("OVER", x.count(1), 3);
        C.due("TRIES", x.count(4), 18);
    }

    /** "behind a LIFT (all its ROUNDS) who has no GOOD TRY in it is OUT, and tries no more" */
    private static void outBehindTheLiftAlone() {
        for (String how : new String[] {"fff", "gff", "fgf", "ffg"}) {
            NextLoad x = States.with("80,5" + THREE, "80,6" + THREE);
            for (int i = 0; i < 3; i++) {
                x.tries(how.charAt(i) == 'g');
                C.due(how + ": nobody is OUT yet", x.count(9), 0);
                C.due(how + ": nor it", x.lifter(0, 0, 10), 0);
                x.tries(true);
            }
            boolean out = how.equals("fff");
            C.due(how + ": LIFT", x.count(1), 1);
            C.due(how + ": OUT", x.count(9), out ? 1 : 0);
            C.due(how + ": OUT", x.lifter(0, 0, 10), out ? 1 : 0);
            C.due(how + ": ASKED", x.lifter(0, 0, 6), out ? 0 : 10);
            C.due(how + ": LEAST", x.lifter(0, 0, 7), out ? 0 : 1);
            C.due(how + ": to TRY", x.lifter(0, 0, 9), out ? 0 : 1);
            C.due(how + ": who tries", x.tries(true), out ? 1 : 0);
        }
        // who has none to come, and none GOOD, is not OUT as long as the LIFT goes on
        NextLoad x = States.with("80,5;40=500/40+1+1" + TWO, "80,6;40=500/40+1+0" + TWO);
        x.tries(false);
        States.tryAll(x, "ff");
        C.due("ROUND 2", x.count(2), 2);
        C.due("no TRY to come", x.lifter(0, 0, 6), 0);
        C.due("not OUT yet", x.count(9), 0);
        x.tries(true);
        C.due("OUT behind the LIFT", x.count(9), 1);
    }

    /** "who has no BEST of LIFT 2 when it is OVER is OUT, too"; "TOTAL .. 0 of who is OUT" */
    private static void outInTheLastLift() {
        NextLoad x = States.with("80,5" + THREE, "80,6" + THREE);
        States.tryAll(x, "gggggggggggg");
        for (int i = 0; i < 5; i++) {
            x.tries(i % 2 == 1);
        }
        C.due("LIFT 2, ROUND 2, one to TRY", x.order(), 1);
        C.due("not OUT yet", x.count(9), 0);
        C.due("sum of two LIFTS", x.lifter(0, 0, 11), 24);
        x.tries(false);
        C.due("OVER", x.count(1), 3);
        C.due("OUT", x.count(9), 1);
        C.due("TOTAL 0", x.lifter(0, 0, 11), 0);
        C.due("BEST stays", x.lifter(0, 1, 5), 12);
        C.due("TOTAL", x.lifter(1, 0, 11), 35);
    }

    /** "OVER (LIFT 3, ROUND 0, BAR 0, no TRY to come, no CHANGES)" */
    private static void overAtLast() {
        NextLoad x = States.over();
        C.due("LIFT", x.count(1), 3);
        C.due("ROUND", x.count(2), 0);
        C.due("BAR", x.count(3), 0);
        for (int i = 0; i < 3; i++) {
            C.due("ASKED", x.lifter(i, 0, 6), 0);
            C.due("LEAST", x.lifter(i, 0, 7), 0);
            C.due("CHANGES", x.lifter(i, 0, 8), 0);
            C.due("to TRY", x.lifter(i, 0, 9), 0);
        }
        Twins over = new Twins(C, "OVER", States::over);
        over.same("called()", NextLoad::called, -2);
        over.same("tries(true)", y -> y.tries(true), -2);
        over.same("tries(false)", y -> y.tries(false), -2);
        over.same("asks(0, 40)", y -> y.asks(0, 40), -2);
        over.same("slot(0, 0)", y -> y.slot(0, 0), -2);
        over.tells("order()", NextLoad::order, 0);
    }

    /** "Without LIFTERS it stands at LIFT 0, ROUND 0." */
    private static void withoutLifters() {
        NextLoad x = States.empty();
        for (int what = 0; what < 7; what++) {
            C.due("count(" + what + ")", x.count(what), 0);
        }
        Twins empty = new Twins(C, "empty", States::empty);
        empty.same("called()", NextLoad::called, -2);
        empty.same("tries(true)", y -> y.tries(true), -2);
        empty.tells("order()", NextLoad::order, 0);
        empty.same("asks(0, 1)", y -> y.asks(0, 1), -1);
        empty.same("tried(0, 0)", y -> y.tried(0, 0), -1);
        empty.same("place(0)", y -> y.place(0), -1);
        empty.same("slot(0, 0)", y -> y.slot(0, 0), -1);
        empty.same("needs(0, 1)", y -> y.needs(0, 1), -1);
        NextLoad gone = States.over();
        gone.leaves();
        gone.leaves();
        gone.leaves();
        C.due("all gone: LIFT", gone.count(1), 0);
        C.due("all gone: called()", gone.called(), -2);
    }

    /** "(If nobody can be CALLED in a ROUND, it goes on at once.)" */
    private static void goesOnAtOnce() {
        NextLoad x = States.with("80,5" + States.three("40=500/40+1+1"));
        for (int lift = 0; lift < 3; lift++) {
            C.due("LIFT", x.count(1), lift);
            C.due("ROUND", x.count(2), 0);
            C.due("tries", x.tries(true), 0);
            C.row("none then", x, 40, 0);
        }
        C.due("OVER", x.count(1), 3);
        C.due("TOTAL", x.lifter(0, 0, 11), 120);
        C.due("TRIES", x.count(4), 3);
        // both none to come behind ROUND 1: ROUND 2 is passed
        NextLoad y = States.with("80,5;40=500/31+9+9" + TWO, "80,6;40=500/32+8+8" + TWO);
        States.tryAll(y, "ggg");
        C.due("ROUND", y.count(2), 1);
        C.due("LIFT", y.count(1), 0);
        y.tries(true);
        C.due("ROUND", y.count(2), 0);
        C.due("LIFT", y.count(1), 1);
        C.due("CHANGES", y.lifter(0, 0, 8), 1);
    }

    private static void allOutAtOnce() {
        NextLoad x = States.with("80,5;40=500/40+1+1" + TWO, "80,6;40=500/40+1+1" + TWO);
        States.tryAll(x, "ff");
        C.due("both OUT behind ROUND 0: OVER", x.count(1), 3);
        C.due("ROUND", x.count(2), 0);
        C.due("OUT", x.count(9), 3);
        C.due("TRIES", x.count(4), 2);
        NextLoad y = States.with("80,5" + LIFT + ";40=500/40+1+1" + LIFT);
        States.tryAll(y, "gggf");
        C.due("OUT in LIFT 1: OVER", y.count(1), 3);
        C.due("OUT", y.count(9), 1);
        C.due("all six OUT", outBitsOfSix(), 63);
    }

    private static int outBitsOfSix() {
        NextLoad x = States.full();
        x.begins();
        for (int i = 0; i < 18; i++) {
            x.tries(false);
        }
        return x.count(1) == 3 ? x.count(9) : -1;
    }

    /** "BEST of a LIFT: the greatest LOAD of a GOOD TRY (0: none)" */
    private static void best() {
        NextLoad x = States.with("80,5;40=500/10+2+3" + TWO);
        C.due("none at first", x.lifter(0, 0, 5), 0);
        x.tries(false);
        C.due("none GOOD", x.lifter(0, 0, 5), 0);
        C.due("sum", x.lifter(0, 0, 11), 0);
        x.tries(true);
        C.due("GOOD at 13", x.lifter(0, 0, 5), 13);
        x.tries(false);
        C.due("FAILED at 15", x.lifter(0, 0, 5), 13);
        C.due("none of LIFT 1", x.lifter(0, 1, 5), 0);
        C.due("GOOD ones", x.count(5), 1);
        NextLoad y = States.with("80,5;40=500/1+1+0" + TWO);
        y.tries(true);
        C.due("the least LOAD", y.lifter(0, 0, 5), 1);
        y.tries(true);
        C.due("the greatest", y.lifter(0, 0, 5), 2);
        C.due("sum", y.lifter(0, 0, 11), 2);
    }

    /** "BAR: the greatest LOAD tried in this ROUND (0 at first)." */
    private static void bar() {
        NextLoad x = States.with("80,5" + THREE, "80,6;20=500/12+1+0" + TWO);
        C.due("at first", x.count(3), 0);
        x.tries(false);
        C.due("FAILED ones count", x.count(3), 10);
        x.tries(true);
        C.due("a new ROUND", x.count(3), 0);
        x.tries(true);
        C.due("ROUND 1", x.count(3), 10);
        x.tries(true);
        x.tries(true);
        C.due("ROUND 2", x.count(3), 11);
        x.tries(true);
        C.due("LIFT 1", x.count(3), 0);
        x.asks(0, 40);
        x.tries(true);
        x.tries(true);
        C.due("ROUND 1 of LIFT 1", x.count(3), 0);
    }

    /** "LEAST .. 1 for the first one of a LIFT; x + 1, x; and, if it has not tried in this ROUND, no less than BAR" */
    private static void least() {
        NextLoad x = States.with("80,5" + THREE, "80,6;20=500/12+1+0" + TWO, "80,7;20=500/15+1+0" + TWO);
        for (int i = 0; i < 3; i++) {
            C.due("first", x.lifter(i, 0, 7), 1);
        }
        x.tries(true);
        C.due("behind a GOOD one at 10", x.lifter(0, 0, 7), 11);
        C.due("BAR 10", x.lifter(1, 0, 7), 10);
        C.due("BAR 10", x.lifter(2, 0, 7), 10);
        x.tries(false);
        C.due("behind a FAILED one at 12", x.lifter(1, 0, 7), 12);
        C.due("BAR 12 is nothing to who has tried", x.lifter(0, 0, 7), 11);
        C.due("BAR 12", x.lifter(2, 0, 7), 12);
        x.tries(true);
        C.due("ROUND 1", x.lifter(0, 0, 7), 11);
        C.due("ROUND 1", x.lifter(1, 0, 7), 12);
        C.due("ROUND 1", x.lifter(2, 0, 7), 16);
        x.tries(true);
        C.due("BAR 11 is below it", x.lifter(1, 0, 7), 12);
        States.tryAll(x, "ff");
        C.due("FAILED at 12 again", x.lifter(1, 0, 7), 12);
        C.due("FAILED at 16", x.lifter(2, 0, 7), 16);
        States.tryAll(x, "ggg");
        C.due("LIFT 1", x.count(1), 1);
        for (int i = 0; i < 3; i++) {
            C.due("the first one of a LIFT", x.lifter(i, 0, 7), 1);
        }
        NextLoad y = States.with("80,5;20=500/39+1+0" + TWO);
        y.tries(true);
        C.due("up to 40", y.lifter(0, 0, 7), 40);
    }

    /** "CHANGES: in ROUND 0 of each LIFT one for each, in ROUND 2 of LIFT 2 two, in others none." */
    private static void changes() {
        int[] due = {1, 0, 0, 1, 0, 0, 1, 0, 2, 0};
        NextLoad x = States.with("80,5" + THREE, "80,6" + THREE);
        for (int round = 0; round < due.length; round++) {
            C.due("round " + round, x.lifter(0, 0, 8), due[round]);
            C.due("round " + round, x.lifter(1, 0, 8), due[round]);
            int load = x.lifter(1, 0, 6) + 1;
            for (int left = due[round] - 1; left >= 0; left--) {
                C.due("round " + round + ": asks", x.asks(1, load + 2 - left), left);
                C.due("round " + round + ": left", x.lifter(1, 0, 8), left);
                C.due("round " + round + ": its own alone", x.lifter(0, 0, 8), due[round]);
            }
            C.due("round " + round + ": asks", x.asks(1, load + 5), round == 9 ? -2 : -3);
            x.tries(true);
            if (round < 9) {
                C.due("round " + round + ": none again by a TRY", x.lifter(1, 0, 8), 0);
                C.due("round " + round + ": has tried", x.asks(0, 40), -2);
                x.tries(true);
            }
        }
        // left over ones are not kept
        NextLoad y = States.with("80,5" + THREE);
        y.tries(true);
        C.due("ROUND 1", y.lifter(0, 0, 8), 0);
    }

    /** "the greater sum, of like ones the lesser BODY, then the lesser LOT" */
    private static void ahead() {
        NextLoad x = States.with("80,9" + THREE, "79,10" + THREE, "80,8" + THREE);
        x.place(0);
        C.row("like sums", x, 1, 2, 0);
        C.due("80, LOT 9", x.place(0), 2);
        C.due("79", x.place(1), 0);
        C.due("80, LOT 8", x.place(2), 1);
        // called by LOT: 2, 0, 1
        States.tryAll(x, "fg");
        C.due("the greater sum", x.place(0), 0);
        C.row("the greater sum", x, 0, 1, 2);
        x.tries(true);
        C.row("like sums again", x, 10, 11);
        x.place(2);
        C.row("like sums again", x, 1, 0, 2);
    }

    /** "who is OUT is behind all who are not"; of those who are the lesser BODY, then the lesser LOT, whatever BESTS */
    private static void aheadOfThoseWhoAreOut() {
        NextLoad x = States.with("50,1;40=500/40+1+0;40=500/40+1+1" + LIFT, "60,2;40=500/1+9+0;40=500/1+9+0" + LIFT,
            "50,3;40=500/40+1+0;40=500/40+1+1" + LIFT, "40,4;40=500/40+1+1" + TWO);
        // 1 makes 1; 0 and 2 make 40; 3 FAILS
        States.tryAll(x, "gggf");
        States.tryAll(x, "ff");
        C.due("LIFT 1", x.count(1), 1);
        C.due("OUT", x.count(9), 8);
        x.place(0);
        C.row("OUT with the least BODY is last", x, 0, 2, 1, 3);
        C.due("40 kg, OUT", x.place(3), 3);
        // 1 makes 1; 0 and 2 FAIL at 40, and have none to come
        States.tryAll(x, "gff");
        States.tryAll(x, "ff");
        C.due("LIFT 2", x.count(1), 2);
        C.due("OUT", x.count(9), 13);
        C.due("the one who is not", x.place(1), 0);
        C.row("among those who are OUT BODY, then LOT", x, 1, 3, 0, 2);
        C.due("its BEST", x.lifter(0, 0, 5), 40);
        C.due("its sum", x.lifter(0, 0, 11), 0);
    }

    /** "Who is CALLED; the ROW: its LOAD, ODDS. -2: it is OVER, or there are no LIFTERS." */
    private static void called() {
        new Twins(C, "fresh", States::fresh).tells("called()", NextLoad::called, 1, 10, 500);
        new Twins(C, "middle", States::middle).tells("called()", NextLoad::called, 1, 12, 500);
        new Twins(C, "one OUT", States::oneOut).tells("called()", NextLoad::called, 1, 10, 500);
        // 2 makes 10, 11, 12, 13 where 0 FAILS at 10 twice
        new Twins(C, "last", States::last).tells("called()", NextLoad::called, 0, 10, 500);
        new Twins(C, "last, tired", () -> {
            NextLoad x = States.last();
            x.tires(300);
            return x;
        }).tells("called()", NextLoad::called, 0, 10, 0);
        new Twins(C, "OVER", States::over).same("called()", NextLoad::called, -2);
        new Twins(C, "empty", States::empty).same("called()", NextLoad::called, -2);
    }

    /** "Those who are still to TRY in this ROUND: how many; the ROW: they" */
    private static void order() {
        new Twins(C, "fresh", States::fresh).tells("order()", NextLoad::order, 3, 1, 0, 2);
        new Twins(C, "middle", States::middle).tells("order()", NextLoad::order, 1, 1);
        new Twins(C, "one OUT", States::oneOut).tells("order()", NextLoad::order, 2, 1, 2);
        new Twins(C, "OVER", States::over).tells("order()", NextLoad::order, 0);
        new Twins(C, "empty", States::empty).tells("order()", NextLoad::order, 0);
        new Twins(C, "full", States::full).tells("order()", NextLoad::order, 5, 4, 3, 2, 1, 0);
        NextLoad all = States.full();
        all.begins();
        C.due("all six", all.order(), 6);
        C.row("all six", all, 5, 4, 3, 2, 1, 0);
    }

    /** "ASKS for another LOAD (a CHANGE)": from LEAST to 40, but not what it ASKED */
    private static void asksAtItsEdges() {
        for (int load = 1; load <= 40; load++) {
            NextLoad x = States.fresh();
            C.due("asks(0, " + load + ")", x.asks(0, load), load == 10 ? -4 : 0);
            C.due("ASKED", x.lifter(0, 0, 6), load);
            NextLoad y = States.with("80,5" + THREE, "80,6;20=500/12+1+0" + TWO);
            y.tries(true);
            C.due("BAR 10: asks(1, " + load + ")", y.asks(1, load), load < 10 || load == 12 ? -4 : 0);
            NextLoad z = States.last();
            // 1 made 12, 12, 11: LEAST 12, ASKED 12
            C.due("LEAST 12: asks(1, " + load + ")", z.asks(1, load), load <= 12 ? -4 : 1);
        }
        NextLoad x = States.last();
        C.due("two of them", x.asks(1, 13), 1);
        C.due("down again, but no less than LEAST", x.asks(1, 12), 0);
        C.due("no third", x.asks(1, 13), -3);
        // 0 FAILED twice at 10: LEAST 10
        NextLoad y = States.last();
        C.due("below LEAST", y.asks(0, 9), -4);
        C.due("what it ASKED", y.asks(0, 10), -4);
        C.due("above", y.asks(0, 11), 1);
        C.due("back to LEAST", y.asks(0, 10), 0);
        // BAR beside its own LEAST
        NextLoad z = States.lastBegun();
        C.due("BAR", z.count(3), 10);
        C.due("LEAST above BAR", z.lifter(1, 0, 7), 12);
    }

    /** "-2: it is not; -3: it has no CHANGES left; -4: it is below LEAST, or what it ASKED."; NONE ahead of them */
    private static void asksWhichAnswerFirst() {
        Twins fresh = new Twins(C, "fresh", States::fresh);
        fresh.same("asks(0, 10)", x -> x.asks(0, 10), -4);
        for (int far : FAR) {
            fresh.same("asks(" + far + ", 9)", x -> x.asks(far, 9), -1);
            fresh.same("asks(" + far + ", 0)", x -> x.asks(far, 0), -1);
        }
        for (int far : new int[] {-1, 0, 41, Integer.MIN_VALUE, Integer.MAX_VALUE}) {
            fresh.same("asks(0, " + far + ")", x -> x.asks(0, far), -1);
        }
        Twins middle = new Twins(C, "middle", States::middle);
        middle.same("no CHANGES, above LEAST", x -> x.asks(1, 13), -3);
        middle.same("no CHANGES, below LEAST", x -> x.asks(1, 1), -3);
        middle.same("no CHANGES, what it ASKED", x -> x.asks(1, 12), -3);
        middle.same("no CHANGES, no LOAD", x -> x.asks(1, 41), -1);
        middle.same("has tried, no CHANGES, below LEAST", x -> x.asks(0, 1), -2);
        middle.same("has tried, no LOAD", x -> x.asks(0, 0), -1);
        middle.same("none to come", x -> x.asks(2, 40), -2);
        Twins out = new Twins(C, "one OUT", States::oneOut);
        out.same("is OUT", x -> x.asks(0, 40), -2);
        out.same("is OUT, no LOAD", x -> x.asks(0, 41), -1);
        Twins begun = new Twins(C, "last, begun", States::lastBegun);
        begun.same("has tried, CHANGES left", x -> x.asks(0, 40), -2);
        begun.same("below LEAST", x -> x.asks(1, 11), -4);
        Twins used = new Twins(C, "used", () -> {
            NextLoad x = States.fresh();
            x.asks(0, 20);
            return x;
        });
        used.same("no more", x -> x.asks(0, 21), -3);
        used.same("no more, not even back", x -> x.asks(0, 10), -3);
        used.same("no more, what it ASKED", x -> x.asks(0, 20), -3);
    }

    /** "it; the ROW: its LOAD, what it ASKS then in that LIFT (0: none). -2: nobody is." */
    private static void tries() {
        NextLoad x = States.with("80,5;20=500/10+2+3;20=500/30+1+0" + LIFT);
        C.due("tries", x.tries(false), 0);
        C.row("FAILED", x, 10, 13);
        C.due("tries", x.tries(true), 0);
        C.row("GOOD", x, 13, 15);
        C.due("tries", x.tries(true), 0);
        C.row("in that LIFT: none, though the next one is open", x, 15, 0);
        C.due("ASKED", x.lifter(0, 0, 6), 30);
        // what it ASKED instead is what it tries, and goes on from
        x.asks(0, 38);
        C.due("tries", x.tries(true), 0);
        C.row("asked", x, 38, 39);
        x.tries(true);
        C.row("39", x, 39, 40);
        x.tries(false);
        C.row("40 in ROUND 2", x, 40, 0);
        new Twins(C, "empty", States::empty).same("tries(false)", y -> y.tries(false), -2);
        NextLoad y = States.over();
        C.due("OVER", y.tries(true), -2);
        C.row("the ROW stays", y, 2, 1, 0);
        C.due("GOOD ones", y.count(5), States.over().count(5));
    }

    /** "TRIES so far, one behind another, the k-th one's what"; "NONE: others." */
    private static void tried() {
        Twins middle = new Twins(C, "middle", States::middle);
        // 0 FAILED at 10, 1 made 11, 2 made 40, 0 FAILED at 10
        int[][] due = {{0, 0, 10, 0}, {1, 0, 11, 1}, {2, 0, 40, 1}, {0, 0, 10, 0}};
        for (int k = 0; k < 4; k++) {
            for (int what = 0; what < 4; what++) {
                int n = k;
                int w = what;
                middle.same("tried(" + k + ", " + what + ")", x -> x.tried(n, w), due[k][what]);
            }
        }
        for (int far : new int[] {-1, 4, Integer.MIN_VALUE, Integer.MAX_VALUE}) {
            middle.same("tried(" + far + ", 0)", x -> x.tried(far, 0), -1);
            middle.same("tried(0, " + far + ")", x -> x.tried(0, far), -1);
            middle.same("tried(3, " + far + ")", x -> x.tried(3, far), -1);
        }
        new Twins(C, "fresh", States::fresh).same("tried(0, 0)", x -> x.tried(0, 0), -1);
        NextLoad x = States.over();
        C.due("LIFT of the last one", x.tried(x.count(4) - 1, 1), 2);
        C.due("behind the last one", x.tried(x.count(4), 0), -1);
    }

    /** "How many LIFTERS are AHEAD of one, as it stands; the ROW: all by place" */
    private static void place() {
        Twins fresh = new Twins(C, "fresh", States::fresh);
        fresh.tells("place(0)", x -> x.place(0), 2, 1, 2, 0);
        fresh.tells("place(1)", x -> x.place(1), 0, 1, 2, 0);
        Twins middle = new Twins(C, "middle", States::middle);
        middle.tells("place(0)", x -> x.place(0), 2, 2, 1, 0);
        for (int far : FAR) {
            middle.same("place(" + far + ")", x -> x.place(far), -1);
        }
        NextLoad six = States.full();
        C.due("six: who made 4", six.place(5), 0);
        C.row("six", six, 5, 0, 1, 2, 3, 4);
        C.due("six: the last", six.place(4), 5);
        new Twins(C, "alone", () -> States.with("80,5" + THREE)).tells("place(0)", x -> x.place(0), 0, 0);
        new Twins(C, "one OUT", States::oneOut).tells("place(0)", x -> x.place(0), 2, 2, 1, 0);
    }

    /** "The least LOAD .. (CHANGES aside, LEAST or more) so that k others are CALLED ahead of it" */
    private static void slot() {
        NextLoad x = States.with("80,5" + THREE, "80,6;20=500/15+1+0" + TWO, "80,4;20=500/15+1+0" + TWO, "80,9;20=500/40+1+0" + TWO);
        C.due("ahead of all", x.slot(0, 0), 1);
        C.due("behind LOT 4 at 15, ahead of LOT 6", x.slot(0, 1), 15);
        C.due("behind both at 15", x.slot(0, 2), 16);
        C.due("behind LOT 9 at 40: no LOAD is", x.slot(0, 3), -3);
        C.due("LOT 9 is behind LOT 5 at 10", x.slot(3, 1), 10);
        C.due("LOT 9 is behind both at 15", x.slot(3, 3), 15);
        C.due("exactly two ahead: none such", x.slot(3, 2), -3);
        C.due("LOT 9 ahead of all", x.slot(3, 0), 1);
        C.due("LOT 4 at 40 is ahead of LOT 9", x.slot(2, 2), 16);
        C.due("no more than the others", x.slot(0, 4), -3);
        x.tries(true);
        C.due("who has tried is not ahead", x.slot(1, 0), 10);
        C.due("LEAST is BAR", x.slot(3, 0), 10);
        C.due("LOT 6 behind LOT 4", x.slot(1, 1), 15);
        // made 10, ASKED 11: CHANGES aside
        States.tryAll(x, "ggg");
        C.due("ROUND 1", x.count(2), 1);
        C.due("LEAST 11, no CHANGES", x.slot(0, 0), 11);
        C.due("behind both at 16", x.slot(0, 2), 17);
        NextLoad high = States.with("80,5" + THREE, "80,4;20=500/40+1+0" + TWO, "80,3;20=500/39+1+0" + TWO);
        C.due("40 is the last LOAD: behind LOT 4 at 40", high.slot(0, 2), 40);
        C.due("39: behind LOT 3", high.slot(0, 1), 39);
        NextLoad alone = States.with("80,5" + THREE);
        C.due("alone", alone.slot(0, 0), 1);
        C.due("alone", alone.slot(0, 1), -3);
    }

    /** "-2: it is not still to TRY; -3: none; NONE: k is below 0." */
    private static void slotRefused() {
        Twins middle = new Twins(C, "middle", States::middle);
        middle.same("slot(1, 0)", x -> x.slot(1, 0), 12);
        middle.same("none", x -> x.slot(1, 1), -3);
        middle.same("none", x -> x.slot(1, Integer.MAX_VALUE), -3);
        middle.same("has tried", x -> x.slot(0, 0), -2);
        middle.same("has tried, and none", x -> x.slot(0, 5), -2);
        middle.same("none to come", x -> x.slot(2, 0), -2);
        for (int k : new int[] {-1, Integer.MIN_VALUE}) {
            middle.same("k " + k, x -> x.slot(1, k), -1);
            middle.same("has tried, k " + k, x -> x.slot(0, k), -1);
        }
        for (int far : FAR) {
            middle.same("slot(" + far + ", 0)", x -> x.slot(far, 0), -1);
        }
        new Twins(C, "one OUT", States::oneOut).same("is OUT", x -> x.slot(0, 0), -2);
    }

    /** "The least LOAD, LEAST or more, which a LIFTER must make .. so that it is AHEAD" */
    private static void needs() {
        NextLoad x = States.with("80,5" + THREE, "70,6;20=500/15+1+0" + TWO, "90,7;20=500/20+1+0" + TWO);
        C.due("AHEAD with like sums", x.needs(1, 0), 0);
        C.due("1 is enough", x.needs(0, 1), 1);
        States.tryAll(x, "ggf");
        // 10, 15, 0
        C.due("as much, if it is AHEAD with like sums", x.needs(0, 2), 0);
        C.due("15 is not enough for the greater BODY", x.needs(0, 1), 16);
        C.due("LEAST is more than what it needs", x.needs(2, 0), 20);
        States.tryAll(x, "fgg");
        // 0 at 11 FAILED; 1 made 16; 2 made 20
        C.due("20 is enough for the lesser BODY", x.needs(1, 2), 20);
        C.due("and for that one, too", x.needs(0, 2), 20);
        C.due("17 for the greater BODY", x.needs(0, 1), 17);
        C.due("it is", x.needs(2, 1), 0);
        // in LIFT 1 by sums of both LIFTS: 0 has 10, 1 has 17, 2 has 20
        States.tryAll(x, "fgf");
        C.due("LIFT 1", x.count(1), 1);
        C.due("10 and 8", x.needs(0, 1), 8);
        C.due("10 and 10, as it is AHEAD with like sums", x.needs(0, 2), 10);
        C.due("17 and 3", x.needs(1, 2), 3);
        C.due("0: with a TRY to come", x.needs(2, 0), 0);
        // what it made already in this LIFT is replaced: 10 and 10, needs 17 and 1 + 10
        States.tryAll(x, "gff");
        C.due("sum", x.lifter(0, 0, 11), 20);
        C.due("LEAST above what it needs is none: it is AHEAD", x.needs(0, 2), 0);
        C.due("1 needs 3", x.needs(1, 2), 10);
        C.due("2 at 20 and 1", x.needs(2, 0), 10);
    }

    /** "-2: none to come; -3: with none; NONE: they are one, too."; "(0: it is, with a TRY to come or without)" */
    private static void needsRefused() {
        Twins middle = new Twins(C, "middle", States::middle);
        // sums 0, 11, 40; 0 has tried in this ROUND, but has one of ROUND 2 to come
        middle.same("has tried, one to come", x -> x.needs(0, 1), 12);
        middle.same("one to come", x -> x.needs(1, 2), 40);
        middle.same("none to come, but it is", x -> x.needs(2, 0), 0);
        middle.same("they are one", x -> x.needs(0, 0), -1);
        middle.same("they are one, none to come", x -> x.needs(2, 2), -1);
        for (int far : FAR) {
            middle.same("needs(" + far + ", 0)", x -> x.needs(far, 0), -1);
            middle.same("needs(0, " + far + ")", x -> x.needs(0, far), -1);
            middle.same("needs(" + far + ", " + far + ")", x -> x.needs(far, far), -1);
            middle.same("none to come: needs(2, " + far + ")", x -> x.needs(2, far), -1);
        }
        Twins heavy = new Twins(C, "40 is not enough", () -> {
            NextLoad x = States.with("80,5;40=500/39+1+0" + TWO, "70,6;40=500/40+1+0" + TWO, "90,7;40=500/40+1+1" + TWO);
            States.tryAll(x, "fgf");
            return x;
        });
        heavy.same("with none", x -> x.needs(0, 1), -3);
        heavy.same("none to come, with none", x -> x.needs(2, 1), -2);
        heavy.same("none to come", x -> x.needs(2, 0), -2);
        heavy.same("it is", x -> x.needs(0, 2), 0);
        Twins out = new Twins(C, "one OUT", States::oneOut);
        out.same("who is OUT", x -> x.needs(0, 1), -2);
        out.same("of who is OUT", x -> x.needs(1, 0), 0);
        Twins bothOut = new Twins(C, "both OUT", () -> {
            NextLoad x = States.with("80,5;40=500/40+1+1" + TWO, "70,6;40=500/40+1+1" + TWO);
            States.tryAll(x, "ff");
            return x;
        });
        bothOut.same("both OUT, by BODY", x -> x.needs(1, 0), 0);
        bothOut.same("both OUT, by BODY", x -> x.needs(0, 1), -2);
        Twins over = new Twins(C, "OVER", States::over);
        over.same("OVER, AHEAD", x -> x.needs(1, 0), 0);
        over.same("OVER, not AHEAD", x -> x.needs(0, 1), -2);
    }
}
