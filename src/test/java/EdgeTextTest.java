/** Promises 1 to 4 at their edges: THE TEXT, and which texts are a LIFTER. */
public final class EdgeTextTest {
    private static final Checks C = new Checks("EdgeTextTest");
    private static final String ONE = "20=500/10+1+0";
    private static final String THREE = States.three(ONE);

    public static void main(String[] args) {
        aNewObject();
        signsFourAtATime();
        signsUpTo240();
        endCutsWhatThereIs();
        endRefused();
        numbersAtTheirEdges();
        numbersOfFourDigits();
        noNoughtAhead();
        lotsUnlike();
        loadsRise();
        oddsDoNotRise();
        pointsOneToSix();
        endsTooEarly();
        signsThatCannotStand();
        tooMuch();
        sixAtMost();
        whateverItAnswers();
        begunAnew();
        C.end();
    }

    /** The answer to a text as the first LIFTER. */
    private static int answer(String text) {
        return Checks.enter(new NextLoad(), text);
    }

    private static void taken(String text) {
        C.due("enters() of '" + text + "'", answer(text), 0);
    }

    private static void bad(String text, int p) {
        C.due("enters() of '" + text + "'", answer(text), -21 - p);
    }

    /** "No LIFTERS; TIRE 0." */
    private static void aNewObject() {
        NextLoad x = new NextLoad();
        C.due("new: LIFTERS", x.count(0), 0);
        C.due("new: TIRE", x.tires(1), 0);
        C.row("new: at first it has none", x);
        C.due("new: leaves()", x.leaves(), -2);
        C.due("new: no LIFTER 0", x.lifter(0, 0, 0), -1);
    }

    /** "Four signs come behind THE TEXT, of v the highest byte first: how many it has." */
    private static void signsFourAtATime() {
        NextLoad x = new NextLoad();
        String text = "12,9" + THREE + "  ";
        for (int i = 0; i < text.length(); i += 4) {
            int v = text.charAt(i) * 0x1000000 + text.charAt(i + 1) * 0x10000 + text.charAt(i + 2) * 0x100 + text.charAt(i + 3);
            C.due("sign", x.sign(v), i + 4);
        }
        C.due("cut", x.end(46), true);
        C.due("enters()", x.enters(), 0);
        C.due("BODY: the highest byte first", x.lifter(0, 0, 0), 12);
        C.due("LOT: the lowest byte last", x.lifter(0, 0, 1), 9);
        for (int v : new int[] {0, -1, Integer.MIN_VALUE, Integer.MAX_VALUE}) {
            NextLoad y = new NextLoad();
            C.due("sign(" + v + ")", y.sign(v), 4);
            C.due("sign(" + v + "): no digit", y.enters(), -21);
        }
    }

    /** "Refused: there would be more than 240." */
    private static void signsUpTo240() {
        for (int length = 233; length <= 240; length++) {
            NextLoad x = new NextLoad();
            for (int i = 0; i < 60; i++) {
                x.sign(0);
            }
            C.due("240 signs", x.count(8), 240);
            x.end(length);
            C.due("sign on " + length, x.sign(0), length <= 236 ? length + 4 : -1);
            C.due("signs behind it", x.count(8), length <= 236 ? length + 4 : length);
        }
        // a refused one writes none of its signs, not even those for which there is room
        NextLoad x = new NextLoad();
        String text = "12,9" + THREE;
        Checks.write(x, text);
        while (x.count(8) <= 236) {
            x.sign(0);
        }
        C.due("refused", x.sign(0x31313131), -1);
        C.due("the LIFTER is there still", x.end(text.length()), true);
        C.due("the LIFTER is there still", x.enters(), 0);
        Twins fresh = new Twins(C, "238 signs", () -> {
            NextLoad y = States.fresh();
            for (int i = 0; i < 59; i++) {
                y.sign(0x20202020);
            }
            y.end(238);
            return y;
        });
        fresh.same("sign", y -> y.sign(0x31313131), -1);
    }

    /** "THE TEXT has its first n signs alone: true". */
    private static void endCutsWhatThereIs() {
        for (int n = 0; n <= 8; n++) {
            NextLoad x = new NextLoad();
            x.sign(0x31323334);
            x.sign(0x35363738);
            C.due("end(" + n + ") of 8", x.end(n), true);
            C.due("signs", x.count(8), n);
            C.due("once more", x.end(n), true);
            C.due("what was cut is gone", x.end(n + 1), false);
        }
        // what comes behind goes on from there
        NextLoad x = new NextLoad();
        Checks.write(x, "12,9xyz");
        x.end(4);
        Checks.write(x, THREE);
        C.due("written on", x.enters(), 0);
    }

    /** "false if it has not so many, or n is below 0." */
    private static void endRefused() {
        Twins begun = new Twins(C, "5 signs", States::fresh);
        for (int n : new int[] {6, 240, 241, Integer.MAX_VALUE, -1, Integer.MIN_VALUE}) {
            begun.same("end(" + n + ")", x -> x.end(n) ? 1 : 0, 0);
        }
        NextLoad x = new NextLoad();
        C.due("end(0) of none", x.end(0), true);
        C.due("end(1) of none", x.end(1), false);
    }

    /** A text with one number put into each LIFT in turn; where: 0 LOAD, 1 ODDS, 2 OPEN, 3 MORE, 4 AGAIN. */
    private static String put(int lift, int where, String number) {
        String[] parts = {"20", "500", "10", "1", "0"};
        parts[where] = number;
        String told = parts[0] + "=" + parts[1] + "/" + parts[2] + "+" + parts[3] + "+" + parts[4];
        String text = "12,9";
        for (int l = 0; l < 3; l++) {
            text += ";" + (l == lift ? told : ONE);
        }
        return text;
    }

    private static int placeOf(int lift, int where) {
        return 5 + 14 * lift + new int[] {0, 3, 7, 10, 12}[where];
    }

    /** BODY 1 .. 200, LOT 0 .. 99, LOADS 1 .. 40, ODDS 0 .. 1000, MORE 1 .. 9, AGAIN 0 .. 9; else "its last digit". */
    private static void numbersAtTheirEdges() {
        taken("1,9" + THREE);
        taken("200,9" + THREE);
        bad("0,9" + THREE, 0);
        bad("201,9" + THREE, 2);
        taken("12,0" + THREE);
        taken("12,99" + THREE);
        bad("12,100" + THREE, 5);
        String[] least = {"1", "0", "1", "1", "0"};
        String[] most = {"40", "1000", "40", "9", "9"};
        String[] above = {"41", "1001", "41", "10", "10"};
        for (int lift = 0; lift < 3; lift++) {
            for (int where = 0; where < 5; where++) {
                taken(put(lift, where, least[where]));
                taken(put(lift, where, most[where]));
                int last = placeOf(lift, where) + (above[where].length() - 1);
                bad(put(lift, where, above[where]), last);
                if (least[where].equals("1")) {
                    bad(put(lift, where, "0"), placeOf(lift, where));
                }
                bad(put(lift, where, ""), placeOf(lift, where));
            }
        }
    }

    /** "numbers of 1 to 4 digits" */
    private static void numbersOfFourDigits() {
        bad("9999,9" + THREE, 3);
        bad("12345,9" + THREE, 3);
        bad("1000", 3);
        bad("12,1000" + THREE, 6);
        taken(put(2, 1, "1000"));
        // 1000 is a number; no fifth digit can stand behind it
        for (int lift = 0; lift < 3; lift++) {
            bad(put(lift, 1, "10000"), placeOf(lift, 1) + 4);
            bad(put(lift, 1, "9999"), placeOf(lift, 1) + 3);
            bad(put(lift, 0, "1234"), placeOf(lift, 0) + 3);
            bad(put(lift, 2, "400"), placeOf(lift, 2) + 2);
        }
    }

    /** "without a nought ahead but 0 itself" */
    private static void noNoughtAhead() {
        taken("12,0" + THREE);
        bad("12,00" + THREE, 4);
        bad("12,09" + THREE, 4);
        bad("012,9" + THREE, 0);
        for (int lift = 0; lift < 3; lift++) {
            taken(put(lift, 1, "0"));
            bad(put(lift, 1, "00"), placeOf(lift, 1) + 1);
            bad(put(lift, 1, "0500"), placeOf(lift, 1) + 1);
            bad(put(lift, 0, "020"), placeOf(lift, 0));
            bad(put(lift, 2, "010"), placeOf(lift, 2));
            bad(put(lift, 3, "01"), placeOf(lift, 3));
            bad(put(lift, 4, "00"), placeOf(lift, 4) + 1);
            bad(put(lift, 4, "01"), placeOf(lift, 4) + 1);
        }
    }

    /** "a LOT there is already: its last digit" */
    private static void lotsUnlike() {
        NextLoad x = States.with("12,0" + THREE, "12,5" + THREE, "12,99" + THREE);
        C.due("like the first", Checks.enter(x, "12,0" + THREE), -24);
        C.due("like the second", Checks.enter(x, "12,5" + THREE), -24);
        C.due("like the last", Checks.enter(x, "12,99" + THREE), -25);
        C.due("like the last, and nothing behind it", Checks.enter(x, "12,99"), -25);
        C.due("BODY may be alike", Checks.enter(x, "12,1" + THREE), 3);
        C.due("that is there now", Checks.enter(x, "13,1" + THREE), -24);
        x.leaves();
        C.due("gone with its LIFTER", Checks.enter(x, "13,1" + THREE), 3);
        C.due("a refused one leaves no LOT", Checks.enter(x, "12,7;"), -26);
        C.due("a refused one leaves no LOT", Checks.enter(x, "12,7" + THREE), 4);
        C.due("a LOT that was not read is like none", Checks.enter(x, "x"), -21);
        C.due("a LOT that was not read is like none", Checks.enter(x, "12;"), -23);
        C.due("a LOT that was not read is like none", x.enters(), -21);
    }

    /** "a LOAD not above the one ahead in its TABLE" */
    private static void loadsRise() {
        for (int lift = 0; lift < 3; lift++) {
            int at = 5 + 14 * lift;
            taken(put(lift, 0, "1=600,2"));
            taken(put(lift, 0, "39=600,40"));
            bad(put(lift, 0, "9=600,9"), at + 6);
            bad(put(lift, 0, "10=600,9"), at + 7);
            bad(put(lift, 0, "10=600,10"), at + 8);
            bad(put(lift, 0, "40=600,40"), at + 8);
            bad(put(lift, 0, "40=600,41"), at + 8);
            bad(put(lift, 0, "40=600,0"), at + 7);
            bad(put(lift, 0, "5=600,8=600,7"), at + 12);
        }
        // the one ahead in its own TABLE alone
        taken("12,9;40=500/1+1+0;1=500/1+1+0;1=500/1+1+0");
    }

    /** "ODDS above those ahead" */
    private static void oddsDoNotRise() {
        for (int lift = 0; lift < 3; lift++) {
            int at = 5 + 14 * lift;
            taken(put(lift, 0, "1=500,2"));
            taken(put(lift, 1, "0,21=0,22=0"));
            taken(put(lift, 1, "1000,21=1000"));
            bad(put(lift, 0, "1=499,2"), at + 10);
            bad(put(lift, 1, "0,21=1"), at + 8);
            bad(put(lift, 1, "500,21=499,22=500"), at + 19);
        }
        taken("12,9;40=0/1+1+0;1=1000/1+1+0;1=1/1+1+0");
    }

    /** "1 to 6 POINTS"; "a 7th POINT: the , ahead of it" */
    private static void pointsOneToSix() {
        String points = "1=9,2=9,3=9,4=9,5=9,6=9";
        for (int lift = 0; lift < 3; lift++) {
            int at = 5 + 14 * lift;
            String text = "12,9";
            String more = "12,9";
            for (int l = 0; l < 3; l++) {
                text += ";" + (l == lift ? points + "/1+1+0" : ONE);
                more += ";" + (l == lift ? points + ",7=9/1+1+0" : ONE);
            }
            taken(text);
            bad(more, at + points.length());
            bad(text.substring(0, at + points.length()) + ",", at + points.length());
            bad(text.substring(0, at), at);
            bad(text.substring(0, at) + "/1+1+0", at);
        }
    }

    /** "p is the number of its signs, if it ends too early" */
    private static void endsTooEarly() {
        String text = "80,5;1=900,2=40/12+3+1;5=1000/8+2+0;2=800,3=300,4=0/22+4+2";
        for (int n = 0; n < text.length(); n++) {
            bad(text.substring(0, n), n);
            // what was cut off is not read any more
            NextLoad x = new NextLoad();
            Checks.write(x, text);
            x.end(n);
            C.due("cut to " + n, x.enters(), -21 - n);
        }
        taken(text);
    }

    /** "the first sign with which no text as told can begin so far" */
    private static void signsThatCannotStand() {
        String text = "80,5;1=900,2=40/12+3+1;5=1000/8+2+0;2=800,3=300,4=0/22+4+2";
        char[] wrong = {' ', 'x', ':', '-', '.', 0, 127, 128, 255, ',' + 128, '0' + 128};
        for (int n = 0; n <= text.length(); n++) {
            for (char sign : wrong) {
                bad(text.substring(0, n) + sign + text.substring(Math.min(n + 1, text.length())), n);
                bad(text.substring(0, n) + sign, n);
            }
        }
        // signs that stand elsewhere
        bad("80;5", 2);
        bad("80,5,1", 4);
        bad("80,5;1/", 6);
        bad("80,5;1=9;", 8);
        bad("80,5;1=9=", 8);
        bad("80,5;1=9+", 8);
        bad("80,5;1=9/1/", 10);
        bad("80,5;1=9/1,", 10);
        bad("80,5;1=9/1+1,", 12);
        bad("80,5;1=9/1+1;", 12);
        bad("80,5;1=9/1+1+1+", 14);
        bad("80,5;1=9/1+1+1,", 14);
        bad("+80,5", 0);
        bad("-1,5", 0);
    }

    private static void tooMuch() {
        String text = "80,5" + THREE;
        for (String more : new String[] {"0", ";", ",", "+", " ", "\0", ";" + ONE, "\n"}) {
            bad(text + more, text.length());
        }
        // the longest text that there is
        String longest = "200,99" + States.three("35=1000,36=1000,37=1000,38=1000,39=1000,40=1000/40+9+9");
        taken(longest);
        bad(longest + " ".repeat(240 - longest.length()), longest.length());
    }

    /** "LIFTERS 0 .. (at most 6)"; "-2: there are 6."; "-21 - p comes first" */
    private static void sixAtMost() {
        NextLoad x = new NextLoad();
        for (int i = 0; i < 6; i++) {
            C.due("enters()", Checks.enter(x, "80," + i + THREE), i);
        }
        C.due("a 7th", Checks.enter(x, "80,6" + THREE), -2);
        C.due("a 7th with a LOT there is", Checks.enter(x, "80,5" + THREE), -24);
        C.due("a 7th that is too long", Checks.enter(x, "80,6" + THREE + "1"), -21 - 4 - THREE.length());
        C.due("a 7th without a text", x.enters(), -21);
        C.due("LIFTERS", x.count(0), 6);
        C.due("leaves()", x.leaves(), 5);
        C.due("a 6th", Checks.enter(x, "80,6" + THREE), 5);
        C.due("it is that one", x.lifter(5, 0, 1), 6);
    }

    /** "THE TEXT, which a call that can read it empties, whatever it answers"; refused calls change nothing else. */
    private static void whateverItAnswers() {
        for (String text : new String[] {"", "x", "80,5", "80,9;", "80,6" + THREE + "+", "80,66;1=1001"}) {
            NextLoad x = States.fresh();
            NextLoad y = States.fresh();
            x.end(0);
            y.end(0);
            C.due("enters() of '" + text + "' below 0", Checks.enter(x, text) < -20, true);
            C.due("emptied", x.count(8), 0);
            C.row("ROW", x, 1, 0, 2);
            C.due("BODY of the last one", x.lifter(2, 0, 0), y.lifter(2, 0, 0));
        }
        Twins fresh = new Twins(C, "no text", () -> {
            NextLoad y = States.middle();
            y.end(0);
            return y;
        });
        fresh.same("enters()", NextLoad::enters, -21);
        fresh.same("enters() of half a LIFTER", x -> Checks.enter(x, "80,66;1=1000,2=999/5+5+5;3"), -21 - 26);
        Twins full = new Twins(C, "full", () -> {
            NextLoad y = States.full();
            y.end(0);
            return y;
        });
        full.same("enters()", x -> Checks.enter(x, "80,66" + THREE), -2);
        NextLoad taken = new NextLoad();
        C.due("taken", Checks.enter(taken, "80,66" + THREE), 0);
        C.due("emptied", taken.count(8), 0);
    }

    /** "its number; THE MEET begins anew" */
    private static void begunAnew() {
        NextLoad x = States.middle();
        C.due("TRIES", x.count(4), 4);
        x.end(0);
        C.due("enters()", Checks.enter(x, "80,66" + THREE), 3);
        C.due("LIFT, ROUND, BAR, TRIES, GOOD ones", x.count(1) + x.count(2) + x.count(3) + x.count(4) + x.count(5), 0);
        C.due("TIRE stays", x.count(6), 50);
        C.due("CHANGES", x.lifter(1, 0, 8), 1);
        C.due("ASKED", x.lifter(1, 0, 6), 10);
        C.due("LEAST", x.lifter(2, 0, 7), 1);
        C.due("BEST", x.lifter(2, 0, 5), 0);
        C.due("all are to TRY", x.order(), 4);
        NextLoad out = States.oneOut();
        out.end(0);
        Checks.enter(out, "80,66" + THREE);
        C.due("nobody OUT any more", out.count(9), 0);
        C.due("BESTS are gone", out.lifter(1, 0, 5), 0);
        C.due("it tries again", out.order(), 4);
        NextLoad y = States.over();
        y.end(0);
        Checks.enter(y, "80,66" + THREE);
        C.due("no longer OVER", y.count(1), 0);
        C.due("nobody OUT", y.count(9), 0);
        C.due("called", y.called(), 1);
    }
}
