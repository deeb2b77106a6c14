import java.util.ArrayList;
import java.util.List;
import java.util.function.Supplier;

/** Terms 3: calls that ask change nothing but the ROW, so that each answers the same whatever was asked ahead of it. */
public final class EdgeTermsTest {
    private static final Checks C = new Checks("EdgeTermsTest");

    /** A call that asks, with its name. */
    private record Ask(String name, Twins.Call call) { }

    public static void main(String[] args) {
        inAnyOrder("middle", States::middle, asksOf(0, 1, 2));
        inAnyOrder("one OUT", States::oneOut, asksOf(0, 1, 2));
        inAnyOrder("last", States::last, asksOf(0, 1, 2));
        inAnyOrder("last, of two like ones", EdgeTermsTest::twoAlike, asksOf(0, 1, 0));
        inAnyOrder("alone", () -> States.with("80,5" + States.three("20=500/10+1+0")), asksOf(0, 1, 0));
        inAnyOrder("OVER", States::over, asksOf(2, 0, 1));
        inAnyOrder("empty", States::empty, asksOf(0, 1, 2));
        C.end();
    }

    /** 10 stand both, the second one leads with like sums; both ASKED 11, the first one is called. */
    private static NextLoad twoAlike() {
        NextLoad x = States.with("80,5" + States.three("40=500/10+1+0"), "70,6" + States.three("40=500/10+1+0"));
        while (x.count(1) < 2 || x.count(2) < 2) {
            x.tries(x.lifter(x.called(), x.count(1), 5) == 0);
        }
        x.order();
        return x;
    }

    private static List<Ask> asksOf(int a, int b, int c) {
        List<Ask> all = new ArrayList<>();
        all.add(new Ask("odds", x -> x.odds(a, 0, 10, 1)));
        all.add(new Ask("lifter", x -> x.lifter(a, 0, 7)));
        all.add(new Ask("called", NextLoad::called));
        all.add(new Ask("order", NextLoad::order));
        all.add(new Ask("tried", x -> x.tried(1, 2)));
        all.add(new Ask("place", x -> x.place(b)));
        all.add(new Ask("slot", x -> x.slot(b, 1)));
        all.add(new Ask("needs", x -> x.needs(b, a)));
        for (int i : new int[] {a, b, c}) {
            all.add(new Ask("mass " + i, x -> x.mass(i)));
            all.add(new Ask("chance " + i, x -> x.chance(i, 33)));
            all.add(new Ask("wins " + i, x -> x.wins(i)));
            all.add(new Ask("heavy " + i, x -> x.heavy(i)));
            all.add(new Ask("gold " + i, x -> x.gold(i)));
            all.add(new Ask("line FAILED " + i, x -> x.line(i, 0, false)));
        }
        all.add(new Ask("chance of 0", x -> x.chance(a, 0)));
        all.add(new Ask("likeliest", x -> x.likeliest(a)));
        all.add(new Ask("beats", x -> x.beats(a, b)));
        all.add(new Ask("bombs", x -> x.bombs(b)));
        all.add(new Ask("opener", x -> x.opener(b, 0, 125000)));
        all.add(new Ask("reach", x -> x.reach(b, 33)));
        all.add(new Ask("reach of 0", x -> x.reach(b, 0)));
        all.add(new Ask("aim", x -> x.aim(b, 300000)));
        all.add(new Ask("against", x -> x.against(b, a)));
        all.add(new Ask("line by WIN", x -> x.line(b, 1, true)));
        all.add(new Ask("duel", x -> x.duel(a, b)));
        all.add(new Ask("duel the other way round", x -> x.duel(b, a)));
        all.add(new Ask("bluff without CHANGES", x -> x.bluff(a, b, 0, 0)));
        all.add(new Ask("bluff 2 0", x -> x.bluff(a, b, 2, 0)));
        all.add(new Ask("bluff 0 2", x -> x.bluff(a, b, 0, 2)));
        all.add(new Ask("often", x -> x.often(a, 3, 5)));
        all.add(new Ask("count", x -> x.count(8)));
        return all;
    }

    private static List<Long> asked(NextLoad x, Ask ask) {
        List<Long> all = new ArrayList<>();
        all.add(ask.call.on(x));
        for (int i = 0; i < x.count(7); i++) {
            all.add(x.row(i));
        }
        return all;
    }

    /** A ROW is told anew, or stays as the first one left it. */
    private static void inAnyOrder(String state, Supplier<NextLoad> maker, List<Ask> asks) {
        List<Long> before = asked(maker.get(), new Ask("nothing", x -> 0));
        for (Ask first : asks) {
            NextLoad x = maker.get();
            for (Ask second : asks) {
                List<Long> due = asked(maker.get(), second);
                List<Long> ahead = asked(x, first);
                List<Long> got = asked(x, second);
                boolean tells = due.get(0) >= 0 && !due.subList(1, due.size()).equals(before.subList(1, before.size()));
                String name = state + ": " + second.name + " behind " + first.name + " " + got + ", due is " + due;
                C.due(name, got.get(0), due.get(0));
                C.due(name, !tells || got.equals(due), true);
                C.due(name, due.get(0) >= 0 || got.subList(1, got.size()).equals(ahead.subList(1, ahead.size())), true);
            }
        }
    }
}
