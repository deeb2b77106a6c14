/** Meets as they stand at times: each call makes a new one, with the beginning of a LIFTER as THE TEXT, and a ROW. */
final class States {
    /** What stands in THE TEXT of each; with three LIFTS behind it a LIFTER can be read. */
    static final String BEGUN = "90,77";
    private static final String EVEN = "20=500/10+1+0";

    private States() {
    }

    /** A LIFT told three times. */
    static String three(String lift) {
        return ";" + lift + ";" + lift + ";" + lift;
    }

    static NextLoad with(String... texts) {
        NextLoad x = new NextLoad();
        for (int i = 0; i < texts.length; i++) {
            if (Checks.enter(x, texts[i]) != i) {
                throw new IllegalStateException("no LIFTER: " + texts[i]);
            }
        }
        return x;
    }

    static void tryAll(NextLoad x, String how) {
        for (int i = 0; i < how.length(); i++) {
            if (x.tries(how.charAt(i) == 'g') < 0) {
                throw new IllegalStateException("nobody tries: " + how + " at " + i);
            }
        }
    }

    private static NextLoad written(NextLoad x) {
        x.order();
        Checks.write(x, BEGUN);
        return x;
    }

    static NextLoad empty() {
        return written(new NextLoad());
    }

    /** Three LIFTERS, nobody has tried; the ROW is 1, 0, 2. */
    static NextLoad fresh() {
        return written(with("80,5" + three(EVEN), "70,4" + three(EVEN), "75,9;40=900/40+1+1" + three(EVEN).substring(14)));
    }

    /** LIFT 0, ROUND 1: 0 has tried in it, 1 is still to TRY, 2 made 40 and has none to come; TIRE 50. */
    static NextLoad middle() {
        NextLoad x = fresh();
        x.tires(50);
        x.asks(1, 11);
        // 0 FAILED at 10, 1 made 11, 2 made 40; 0 FAILED at 10 again
        tryAll(x, "fggf");
        x.order();
        return x;
    }

    /** LIFT 1, ROUND 0, in which 0 is OUT. */
    static NextLoad oneOut() {
        NextLoad x = fresh();
        while (x.count(1) == 0) {
            x.tries(x.called() != 0);
        }
        x.order();
        return x;
    }

    /** LIFT 2, ROUND 2: all are still to TRY; 0 has no BEST in it yet. */
    static NextLoad last() {
        NextLoad x = fresh();
        while (x.count(1) < 2 || x.count(2) < 2) {
            x.tries(x.count(1) < 2 || x.called() != 0);
        }
        x.order();
        return x;
    }

    /** The same, when one has tried. */
    static NextLoad lastBegun() {
        NextLoad x = last();
        x.tries(true);
        x.order();
        return x;
    }

    static NextLoad over() {
        NextLoad x = last();
        tryAll(x, "ggg");
        x.place(0);
        return x;
    }

    static NextLoad full() {
        String[] texts = new String[6];
        for (int i = 0; i < 6; i++) {
            texts[i] = "80," + i + three("9=900/" + (9 - i) + "+1+0");
        }
        NextLoad x = with(texts);
        x.tries(true);
        return written(x);
    }
}
