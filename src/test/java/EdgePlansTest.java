/** Promises 19 to 25 at their edges: what comes of plans. */
public final class EdgePlansTest {
    private static final Checks C = new Checks("EdgePlansTest");
    /** Makes 1 at once, and nothing more. */
    private static final String ONES = ";1=1000/1+1+0;1=1000/1+1+0";
    private static final int[] FAR = {-1, 3, Integer.MIN_VALUE, Integer.MAX_VALUE};

    public static void main(String[] args) {
        refusedOfNoLifter();
        massIsCutEachTime();
        massByWhatIsAsked();
        massByMoreAndAgain();
        massAtTheEnds();
        chanceFrom0To121();
        chanceAtItsStep();
        likeliestOfEqualOnes();
        likeliestAtTheEnds();
        beatsWithLikeSums();
        beatsNothingWithNothing();
        beatsRefused();
        winsByNumbersCutEachTime();
        winsAtTheEnds();
        bombsThatThereIs();
        bombsFromTheBeginning();
        openerUpToP();
        openerRefused();
        C.end();
    }

    /** LIFT 2, ROUND 2: 2 so far, one TRY at 10 with those ODDS, OUT if it FAILS. */
    private static NextLoad lastTry(int odds) {
        NextLoad x = States.with("80,5" + ONES + ";10=" + odds + "/10+1+0");
        States.tryAll(x, "gffgffff");
        return x;
    }

    /** One who makes these LOADS for sure, and no more. */
    private static String sure(String who, int a, int b, int c) {
        return who + ";" + a + "=1000/" + a + "+1+0;" + b + "=1000/" + b + "+1+0;" + c + "=1000/" + c + "+1+0";
    }

    private static void refusedOfNoLifter() {
        Twins[] all = {new Twins(C, "middle", States::middle), new Twins(C, "OVER", States::over)};
        for (Twins t : all) {
            for (int far : FAR) {
                t.same("mass(" + far + ")", x -> x.mass(far), -1);
                t.same("chance(" + far + ", 1)", x -> x.chance(far, 1), -1);
                t.same("likeliest(" + far + ")", x -> x.likeliest(far), -1);
                t.same("wins(" + far + ")", x -> x.wins(far), -1);
                t.same("bombs(" + far + ")", x -> x.bombs(far), -1);
                t.same("opener(" + far + ", 0, 0)", x -> x.opener(far, 0, 0), -1);
            }
        }
        Twins empty = new Twins(C, "empty", States::empty);
        empty.same("mass(0)", x -> x.mass(0), -1);
        empty.same("chance(0, 0)", x -> x.chance(0, 0), -1);
        empty.same("likeliest(0)", x -> x.likeliest(0), -1);
        empty.same("beats(0, 1)", x -> x.beats(0, 1), -1);
        empty.same("wins(0)", x -> x.wins(0), -1);
        empty.same("bombs(0)", x -> x.bombs(0), -1);
        empty.same("opener(0, 0, 0)", x -> x.opener(0, 0, 0), -1);
    }

    /** "VALUE of a TRY: (..) by 1000, cut" */
    private static void massIsCutEachTime() {
        String text = "80,5" + ONES + ";10=333/10+1+0";
        NextLoad x = States.with(text);
        // 12 by one TRY in three: 3996, then (3996000 + 667 * 3996) / 1000, then (3996000 + 667 * 6661) / 1000
        C.due("three TRIES", x.mass(0), 8438);
        States.tryAll(x, "gffgff");
        C.due("three TRIES", x.mass(0), 8438);
        x.tries(false);
        C.due("two TRIES", x.mass(0), 6661);
        x.tries(false);
        C.due("one TRY", x.mass(0), 3996);
        // 333000, 555111, 333000 + 370259.037
        C.due("chance, three TRIES", States.with(text).chance(0, 12), 703259);
        new Twins(C, "one TRY", () -> lastTry(333)).same("mass(0)", y -> y.mass(0), 3996);
    }

    /** "By PLAN: each ASKS as told above"; "from NOW on"; "each alone" */
    private static void massByWhatIsAsked() {
        NextLoad x = States.with("80,5;5=1000/6+1+0" + ONES, "70,6;40=1000/2+1+0" + ONES);
        C.due("6 is above its TABLE", x.mass(0), 0);
        x.asks(0, 5);
        C.due("5 is not", x.mass(0), 7000);
        x.asks(1, 40);
        C.due("what others do is nothing to it", x.mass(0), 7000);
        C.due("40 at once, and no more", x.mass(1), 42000);
        x.tries(false);
        C.due("5 again", x.mass(0), 7000);
        x.tires(300);
        C.due("5 again, tired: 700, then 400", x.mass(0), (7000 * 700 + 300 * (7000 * 400 / 1000)) / 1000);
    }

    /** "behind a TRY at x: x and MORE, if it was GOOD, else x and AGAIN; above 40 .. there is no TRY to come" */
    private static void massByMoreAndAgain() {
        // 10 (500); GOOD: 12 (300), FAILED: 13 (200); then 14, 15, 15, 16, where there is nothing
        NextLoad x = States.with("80,5" + ONES + ";10=500,11=300,12=300,13=200/10+2+3");
        // 12: 12000 + 300 of 2000; 13: 200 of 15000
        C.due("MORE 2, AGAIN 3", x.mass(0), (500 * 12600 + 500 * 3000) / 1000);
        // 31 (500); GOOD: 40, FAILED: 40; behind these there is none
        NextLoad y = States.with("80,5" + ONES + ";40=500/31+9+9");
        C.due("31, then 40 either way", y.mass(0), (500 * 37500 + 500 * 21000) / 1000);
        NextLoad z = States.with("80,5" + ONES + ";40=500/32+9+9");
        C.due("32 alone", z.mass(0), 17000);
    }

    private static void massAtTheEnds() {
        new Twins(C, "one OUT", States::oneOut).same("of who is OUT", x -> x.mass(0), 0);
        NextLoad x = States.over();
        for (int i = 0; i < 3; i++) {
            C.due("OVER: 1000 times TOTAL", x.mass(i), 1000 * x.lifter(i, 0, 11));
        }
        NextLoad doomed = States.with("80,5;40=500/40+1+1" + ONES, "70,6;40=500/40+1+0" + ONES);
        doomed.tries(false);
        C.due("no TRY to come in a LIFT without BEST", doomed.mass(0), 0);
        C.due("not OUT yet", doomed.count(9), 0);
        NextLoad most = States.with(sure("80,5", 40, 40, 40));
        C.due("the greatest", most.mass(0), 120000);
        C.due("nothing at all", States.with("80,5" + States.three("40=0/40+1+0")).mass(0), 0);
    }

    /** "NONE: w is not 0 .. 121." */
    private static void chanceFrom0To121() {
        Twins middle = new Twins(C, "middle", States::middle);
        for (int w : new int[] {-1, 122, Integer.MIN_VALUE, Integer.MAX_VALUE}) {
            middle.same("chance(0, " + w + ")", x -> x.chance(0, w), -1);
        }
        middle.same("chance(0, 0)", x -> x.chance(0, 0), 1000000);
        middle.same("chance(0, 121)", x -> x.chance(0, 121), 0);
        NextLoad most = States.with(sure("80,5", 40, 40, 40));
        C.due("120", most.chance(0, 120), 1000000);
        C.due("121", most.chance(0, 121), 0);
        new Twins(C, "one OUT", States::oneOut).same("OUT: 0", x -> x.chance(0, 0), 1000000);
        new Twins(C, "one OUT", States::oneOut).same("OUT: 1", x -> x.chance(0, 1), 0);
    }

    /** "REACH of w: 1000000, if v is w or more, else 0." */
    private static void chanceAtItsStep() {
        NextLoad x = lastTry(250);
        C.due("0", x.chance(0, 0), 1000000);
        C.due("1", x.chance(0, 1), 250000);
        C.due("12", x.chance(0, 12), 250000);
        C.due("13", x.chance(0, 13), 0);
        x.tries(true);
        C.due("OVER: 12", x.chance(0, 12), 1000000);
        C.due("OVER: 13", x.chance(0, 13), 0);
        NextLoad y = lastTry(250);
        y.tries(false);
        C.due("OVER, OUT: 0", y.chance(0, 0), 1000000);
        C.due("OVER, OUT: 1", y.chance(0, 1), 0);
    }

    /** "for all w from 0 on the greatest: that w, of equal ones the least; the ROW: that, CHANCE of 1" */
    private static void likeliestOfEqualOnes() {
        new Twins(C, "499", () -> lastTry(499)).tells("likeliest(0)", x -> x.likeliest(0), 0, 501000, 499000);
        new Twins(C, "500", () -> lastTry(500)).tells("likeliest(0)", x -> x.likeliest(0), 0, 500000, 500000);
        new Twins(C, "501", () -> lastTry(501)).tells("likeliest(0)", x -> x.likeliest(0), 12, 501000, 501000);
        // 12 as likely as 13, both more than 0
        Twins two = new Twins(C, "12 or 13", () -> {
            NextLoad x = States.with("80,5" + ONES + ";11=500/10+1+0");
            States.tryAll(x, "gffgffg");
            x.tries(false);
            return x;
        });
        two.tells("likeliest(0)", x -> x.likeliest(0), 12, 500000, 1000000);
        new Twins(C, "13 rather than 12", () -> {
            NextLoad x = States.with("80,5" + ONES + ";11=501/10+1+0");
            States.tryAll(x, "gffgffg");
            x.tries(false);
            return x;
        }).tells("likeliest(0)", x -> x.likeliest(0), 13, 501000, 1000000);
    }

    /** "(w 0 .. 120)" */
    private static void likeliestAtTheEnds() {
        new Twins(C, "120", () -> States.with(sure("80,5", 40, 40, 40))).tells("likeliest(0)", x -> x.likeliest(0), 120, 1000000, 1000000);
        new Twins(C, "119", () -> States.with(sure("80,5", 40, 40, 39))).tells("likeliest(0)", x -> x.likeliest(0), 119, 1000000, 1000000);
        new Twins(C, "3", () -> States.with(sure("80,5", 1, 1, 1))).tells("likeliest(0)", x -> x.likeliest(0), 3, 1000000, 1000000);
        new Twins(C, "one OUT", States::oneOut).tells("likeliest(0)", x -> x.likeliest(0), 0, 1000000, 0);
        new Twins(C, "OVER", States::over).tells("likeliest(0)", x -> x.likeliest(0), States.over().lifter(0, 0, 11), 1000000, 1000000);
    }

    /** "1000000 less CHANCE of b of v (of v + 1, if one goes AHEAD of b with like sums)" */
    private static void beatsWithLikeSums() {
        NextLoad x = States.with(sure("80,5", 10, 10, 10), sure("80,6", 10, 10, 10), sure("79,7", 10, 10, 10),
            sure("80,8", 10, 10, 11), sure("90,9", 10, 10, 9));
        C.due("the lesser LOT", x.beats(0, 1), 1000000);
        C.due("the greater LOT", x.beats(1, 0), 0);
        C.due("the lesser BODY, the greater LOT", x.beats(2, 0), 1000000);
        C.due("the greater BODY", x.beats(0, 2), 0);
        C.due("1 more", x.beats(3, 2), 1000000);
        C.due("1 less", x.beats(2, 3), 0);
        C.due("1 less", x.beats(4, 0), 0);
        C.due("1 more", x.beats(0, 4), 1000000);
        NextLoad most = States.with(sure("80,5", 40, 40, 40), sure("80,6", 40, 40, 40));
        C.due("120 of 120, the lesser LOT", most.beats(0, 1), 1000000);
        C.due("120 of 120, the greater LOT", most.beats(1, 0), 0);
        C.due("WIN likewise", most.wins(0), 1000000);
        C.row("WIN likewise", most, 1000000, 0);
    }

    /** "BEAT of a LIFTER b: 0 for v 0" */
    private static void beatsNothingWithNothing() {
        NextLoad x = States.with("80,5" + States.three("1=0/1+1+0"), "90,6" + States.three("1=0/1+1+0"), sure("95,7", 1, 1, 1));
        C.due("both to be OUT", x.beats(0, 1), 0);
        C.due("both to be OUT", x.beats(1, 0), 0);
        C.due("one to be OUT", x.beats(2, 0), 1000000);
        C.due("one to be OUT", x.beats(0, 2), 0);
        C.due("WIN", x.wins(2), 1000000);
        C.row("WIN: 0 for v 0", x, 0, 0, 1000000);
        Twins out = new Twins(C, "one OUT", States::oneOut);
        out.same("who is OUT", y -> y.beats(0, 1), 0);
        C.due("of who is OUT: unless it is OUT, too", States.oneOut().beats(1, 0), States.oneOut().chance(1, 1));
    }

    /** "NONE: they are one, too." */
    private static void beatsRefused() {
        Twins middle = new Twins(C, "middle", States::middle);
        for (int i = 0; i < 3; i++) {
            int one = i;
            middle.same("beats(" + i + ", " + i + ")", x -> x.beats(one, one), -1);
        }
        for (int far : FAR) {
            middle.same("beats(" + far + ", 0)", x -> x.beats(far, 0), -1);
            middle.same("beats(0, " + far + ")", x -> x.beats(0, far), -1);
            middle.same("beats(" + far + ", " + far + ")", x -> x.beats(far, far), -1);
        }
        // BEAT changes nothing: 2 of no chance against 3 of one in four
        new Twins(C, "last TRY", () -> {
            NextLoad x = States.with("80,5" + ONES + ";10=250/10+1+0", sure("80,6", 1, 1, 1));
            while (x.count(1) < 2 || x.count(2) < 2) {
                x.tries(x.called() == 1 ? x.lifter(1, x.count(1), 5) == 0 : x.lifter(0, x.count(1), 5) == 0 && x.count(1) < 2);
            }
            return x;
        }).same("beats(0, 1)", x -> x.beats(0, 1), 250000);
    }

    /**
     * Five in ROUND 2 of LIFT 2: the first one has its 3 (and FAILS at 2), the others 21 or are OUT, with ODDS as told:
     * BEATS are 1000000 less 1000 times these.
     */
    private static NextLoad five(int... odds) {
        String[] texts = new String[odds.length + 1];
        texts[0] = sure("80,50", 1, 1, 1);
        for (int i = 0; i < odds.length; i++) {
            texts[i + 1] = "80," + i + ONES + ";19=" + odds[i] + "/19+1+0";
        }
        NextLoad x = States.with(texts);
        while (x.count(1) < 2 || x.count(2) < 2) {
            int who = x.called();
            x.tries(x.lifter(who, x.count(1), 5) == 0 && (x.count(1) < 2 || who == 0));
        }
        x.tries(false);
        return x;
    }

    /** "1000000, times BEAT of each other LIFTER, by numbers, by 1000000, cut each time" */
    private static void winsByNumbersCutEachTime() {
        // 2000, then 2000 * 27000 / 1000000 = 54, then 1.998, cut to 1, then 0.999, cut to 0
        C.due("by numbers", five(998, 973, 963, 1).wins(0), 0);
        // 999000, 36963, 998.001, cut to 998, then 1.996, cut to 1
        C.due("the other way round", five(1, 963, 973, 998).wins(0), 1);
        C.due("gold likewise", five(998, 973, 963, 1).gold(0), 0);
        C.due("gold likewise", five(1, 963, 973, 998).gold(0), 1);
        C.due("line by WIN has no TRY of it", five(1, 963).line(0, 1, true), 0);
        C.due("one sure to be AHEAD", five(0, 1000, 0).wins(0), 0);
        C.due("none can be AHEAD", five(0, 0, 0).wins(0), 1000000);
    }

    private static void winsAtTheEnds() {
        new Twins(C, "alone", () -> lastTry(250)).tells("wins(0)", x -> x.wins(0), 250000, 250000);
        new Twins(C, "OVER", States::over).tells("wins(2)", x -> x.wins(2), 1000000, 0, 0, 1000000);
        new Twins(C, "OVER", States::over).tells("wins(0)", x -> x.wins(0), 0, 0, 0, 1000000);
        Twins like = new Twins(C, "two alike", () -> States.with(sure("80,5", 9, 9, 9), sure("80,6", 9, 9, 9)));
        like.tells("wins(0)", x -> x.wins(0), 1000000, 1000000, 0);
        like.tells("wins(1)", x -> x.wins(1), 0, 1000000, 0);
        NextLoad out = States.oneOut();
        C.due("who is OUT", out.wins(0), 0);
        C.due("ROW of all", out.count(7), 3);
        NextLoad six = States.full();
        six.wins(0);
        C.due("ROW of six", six.count(7), 6);
        for (int i = 0; i < 6; i++) {
            C.due("that of each", Checks.rowOf(six, i), States.full().wins(i));
        }
    }

    /** "for each TRY by AGAIN, one behind another that FAILS, that there is" */
    private static void bombsThatThereIs() {
        NextLoad x = States.with("80,5;40=500/22+1+9;40=500/23+1+9;40=500/31+1+9", "80,6;40=500/32+1+9;40=500/40+1+0;40=500/40+1+1");
        x.bombs(0);
        C.row("22, 31, 40; 23, 32; 31, 40", x, 125000, 250000, 250000);
        x.bombs(1);
        C.row("32; 40 thrice; 40", x, 500000, 125000, 500000);
        NextLoad y = States.with("80,5;10=333/10+1+0;10=1000,11=0/10+1+1;10=0/10+1+0");
        C.due("sure to be OUT", y.bombs(0), 1000000);
        // 667000, 444889, 296740.963
        C.row("cut each time", y, 296740, 0, 1000000);
        y.tires(100);
        y.bombs(0);
        // 667, 767, 867: 667000, 511589, 443547.663
        C.row("tired", y, 443547, 0, 1000000);
    }

    /** "1000000 less CHANCE of 1"; "for each LIFT, from the beginning of it" */
    private static void bombsFromTheBeginning() {
        NextLoad x = States.with("80,5" + ONES + ";10=333/10+1+0");
        C.due("bombs", x.bombs(0), 1000000 - 703259);
        C.row("bombs", x, 0, 0, 296740);
        new Twins(C, "one TRY left", () -> lastTry(333)).tells("bombs(0)", y -> y.bombs(0), 667000, 0, 0, 296740);
        new Twins(C, "OVER", () -> {
            NextLoad y = lastTry(333);
            y.tries(true);
            return y;
        }).tells("bombs(0)", y -> y.bombs(0), 0, 0, 0, 296740);
        new Twins(C, "OUT", () -> {
            NextLoad y = lastTry(333);
            y.tries(false);
            return y;
        }).tells("bombs(0)", y -> y.bombs(0), 1000000, 0, 0, 296740);
        // OPEN, not what it ASKED instead
        NextLoad y = States.with("80,5;5=1000/6+1+0" + ONES);
        y.asks(0, 5);
        C.due("bombs by what it ASKED", y.bombs(0), 0);
        C.row("the ROW by OPEN", y, 1000000, 0, 0);
    }

    /** "The greatest LOAD at which a LIFTER .. FAILS all with no more than p (0 .. 1000000) of 1000000" */
    private static void openerUpToP() {
        NextLoad x = States.with("80,5;10=900,20=400/12+3+1;1=999,2=500/8+2+0;40=1000/22+4+2");
        C.due("100 thrice is 1000", x.opener(0, 0, 1000), 10);
        C.due("less than that: none", x.opener(0, 0, 999), -2);
        // 150: 3375; 600: 216000
        C.due("3375", x.opener(0, 0, 3375), 11);
        C.due("3374", x.opener(0, 0, 3374), 10);
        C.due("216000", x.opener(0, 0, 216000), 20);
        C.due("215999", x.opener(0, 0, 215999), 19);
        C.due("all but what is sure to FAIL", x.opener(0, 0, 999999), 20);
        C.due("all", x.opener(0, 0, 1000000), 40);
        // 1 of 1000 thrice: 1000, 1, 0
        C.due("cut to 0", x.opener(0, 1, 0), 1);
        C.due("500 thrice", x.opener(0, 1, 125000), 2);
        C.due("500 thrice", x.opener(0, 1, 124999), 1);
        C.due("sure", x.opener(0, 2, 0), 40);
        x.tires(100);
        C.due("0, 100, 200", x.opener(0, 2, 0), 40);
        // 100, 200, 300
        C.due("tired", x.opener(0, 0, 6000), 10);
        C.due("tired", x.opener(0, 0, 5999), -2);
    }

    /** "-2: none; NONE: another p." */
    private static void openerRefused() {
        Twins middle = new Twins(C, "middle", States::middle);
        middle.same("opener(0, 0, 1000000)", x -> x.opener(0, 0, 1000000), 40);
        middle.same("opener(0, 0, 0)", x -> x.opener(0, 0, 0), -2);
        for (int p : new int[] {-1, 1000001, Integer.MIN_VALUE, Integer.MAX_VALUE}) {
            middle.same("opener(0, 0, " + p + ")", x -> x.opener(0, 0, p), -1);
        }
        for (int far : FAR) {
            middle.same("opener(0, " + far + ", 0)", x -> x.opener(0, far, 0), -1);
            middle.same("opener(0, " + far + ", 1000000)", x -> x.opener(0, far, 1000000), -1);
        }
        new Twins(C, "OVER", States::over).same("of who has made its TRIES", x -> x.opener(0, 0, 125000), 20);
        new Twins(C, "one OUT", States::oneOut).same("of who is OUT", x -> x.opener(0, 2, 125000), 20);
    }
}
