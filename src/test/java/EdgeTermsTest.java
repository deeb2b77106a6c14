import java.util.ArrayList;
import java.util.List;
import java.util.function.Supplier;

/** Terms 3: calls that ask answer the same whatever was asked ahead of them; no number makes a call throw. */
public final class EdgeTermsTest {
    private static final Checks C = new Checks("EdgeTermsTest");
    private static final int[] EDGES = {Integer.MIN_VALUE, -1, 0, 1, 2, 3, 6, 41, 122, Integer.MAX_VALUE};

    /** A call that asks, with its name. */
    private record Ask(String name, Twins.Call call) { }

    public static void main(String[] args) {
        inAnyOrder("middle", States::middle, asksOf(0, 1, 2));
        inAnyOrder("one OUT", States::oneOut, asksOf(0, 1, 2));
        inAnyOrder("last", States::last, asksOf(0, 1, 2));
        inAnyOrder("last, of two like ones", EdgeTermsTest::twoAlike, asksOf(0, 1, 0));
        inAnyOrder("alone", () -> States.with("80,5" + States.three("20=500/10+1+0")), asksOf(0, 1, 0));
        inAnyOrder("OVER", States::over, asksOf(2, 0, 1));
        inAnyOrder("empty", States::empty, asksOf(0, 1, 2));
        anyNumbers("empty", States::empty);
        anyNumbers("fresh", States::fresh);
        anyNumbers("middle", States::middle);
        anyNumbers("one OUT", States::oneOut);
        anyNumbers("last", States::last);
        anyNumbers("last, begun", States::lastBegun);
        anyNumbers("OVER", States::over);
        anyNumbers("full", States::full);
        C.end();
    }

    /** No call but row() throws, whatever it is told; answers below 0 are those that the document tells for it. */
    private static void anyNumbers(String state, Supplier<NextLoad> maker) {
        for (int a : EDGES) {
            NextLoad x = maker.get();
            NextLoad planned = maker.get();
            least(state + ": sign", x.sign(a), -1);
            x.end(a);
            least(state + ": tires", x.tires(a), -1);
            least(state + ": place", x.place(a), -1);
            least(state + ": mass", x.mass(a), -1);
            least(state + ": likeliest", x.likeliest(a), -1);
            least(state + ": wins", x.wins(a), -1);
            least(state + ": bombs", x.bombs(a), -1);
            least(state + ": heavy", x.heavy(a), -1);
            least(state + ": gold", x.gold(a), -1);
            least(state + ": count", x.count(a), -1);
            Checks.rowOf(x, a);
            for (int b : EDGES) {
                anyTwo(state, maker.get(), a, b);
                for (int c : EDGES) {
                    anyThree(state, x, a, b, c);
                    least(state + ": plans", planned.plans(a, b, c, c), -1);
                }
            }
            least(state + ": plays", x.plays(a), -2);
            least(state + ": tries", x.tries(true), -2);
        }
    }

    private static void least(String call, long got, int least) {
        C.due(call + " answered " + got, got >= least, true);
    }

    private static void anyTwo(String state, NextLoad x, int a, int b) {
        least(state + ": asks", x.asks(a, b), -4);
        least(state + ": tried", x.tried(a, b), -1);
        least(state + ": slot", x.slot(a, b), -3);
        least(state + ": needs", x.needs(a, b), -3);
        least(state + ": chance", x.chance(a, b), -1);
        least(state + ": beats", x.beats(a, b), -1);
        least(state + ": reach", x.reach(a, b), -1);
        least(state + ": aim", x.aim(a, b), -1);
        least(state + ": against", x.against(a, b), -1);
        least(state + ": line", x.line(a, b, true), -1);
        least(state + ": line", x.line(a, b, false), -1);
        least(state + ": duel", x.duel(a, b), -3);
    }

    private static void anyThree(String state, NextLoad x, int a, int b, int c) {
        least(state + ": lifter", x.lifter(a, b, c), -1);
        least(state + ": opener", x.opener(a, b, c), -2);
        least(state + ": often", x.often(a, b, c), -1);
        for (int d : EDGES) {
            least(state + ": odds", x.odds(a, b, c, d), -1);
            least(state + ": bluff", x.bluff(a, b, c, d), -3);
        }
    }

    /** 10 stand both, the second one leads with like sums; both ASKED 11, the first one is called. */
    private static NextLoad twoAlike() {
        NextLoad x = States.with("80,5" + States.three("40=500/10+1+0"), "70,6" + States.three("40=500/10+1+0"));
        while (x.count(1) < 2 || x.count(2) < 2) {
            x.tries(x.lifter(x.called(), x.count(1), 5) == 0);
        }
        x.order();
        return x;
    }

    private static List<Ask> asksOf(int a, int b, int c) {
        List<Ask> all = new ArrayList<>();
        all.add(new Ask("odds", x -> x.odds(a, 0, 10, 1)));
        all.add(new Ask("lifter", x -> x.lifter(a, 0, 7)));
        all.add(new Ask("called", NextLoad::called));
        all.add(new Ask("order", NextLoad::order));
        all.add(new Ask("tried", x -> x.tried(1, 2)));
        all.add(new Ask("place", x -> x.place(b)));
        all.add(new Ask("slot", x -> x.slot(b, 1)));
        all.add(new Ask("needs", x -> x.needs(b, a)));
        for (int i : new int[] {a, b, c}) {
            all.add(new Ask("mass " + i, x -> x.mass(i)));
            all.add(new Ask("chance " + i, x -> x.chance(i, 33)));
            all.add(new Ask("wins " + i, x -> x.wins(i)));
            all.add(new Ask("heavy " + i, x -> x.heavy(i)));
            all.add(new Ask("gold " + i, x -> x.gold(i)));
            all.add(new Ask("line FAILED " + i, x -> x.line(i, 0, false)));
        }
        all.add(new Ask("chance of 0", x -> x.chance(a, 0)));
        all.add(new Ask("likeliest", x -> x.likeliest(a)));
        all.add(new Ask("beats", x -> x.beats(a, b)));
        all.add(new Ask("bombs", x -> x.bombs(b)));
        all.add(new Ask("opener", x -> x.opener(b, 0, 125000)));
        all.add(new Ask("reach", x -> x.reach(b, 33)));
        all.add(new Ask("reach of 0", x -> x.reach(b, 0)));
        all.add(new Ask("aim", x -> x.aim(b, 300000)));
        all.add(new Ask("against", x -> x.against(b, a)));
        all.add(new Ask("line by WIN", x -> x.line(b, 1, true)));
        all.add(new Ask("duel", x -> x.duel(a, b)));
        all.add(new Ask("duel the other way round", x -> x.duel(b, a)));
        all.add(new Ask("bluff without CHANGES", x -> x.bluff(a, b, 0, 0)));
        all.add(new Ask("bluff 2 0", x -> x.bluff(a, b, 2, 0)));
        all.add(new Ask("bluff 0 2", x -> x.bluff(a, b, 0, 2)));
        all.add(new Ask("often", x -> x.often(a, 3, 5)));
        all.add(new Ask("count", x -> x.count(8)));
        return all;
    }

    private static List<Long> asked(NextLoad x, Ask ask) {
        List<Long> all = new ArrayList<>();
        all.add(ask.call.on(x));
        for (int i = 0; i < x.count(7); i++) {
            all.add(x.row(i));
        }
        return all;
    }

    /** A ROW is told anew, or stays as the first one left it. */
    private static void inAnyOrder(String state, Supplier<NextLoad> maker, List<Ask> asks) {
        List<Long> before = asked(maker.get(), new Ask("nothing", x -> 0));
        for (Ask first : asks) {
            NextLoad x = maker.get();
            for (Ask second : asks) {
                List<Long> due = asked(maker.get(), second);
                List<Long> ahead = asked(x, first);
                List<Long> got = asked(x, second);
                boolean tells = due.get(0) >= 0 && !due.subList(1, due.size()).equals(before.subList(1, before.size()));
                String name = state + ": " + second.name + " behind " + first.name + " " + got + ", due is " + due;
                C.due(name, got.get(0), due.get(0));
                C.due(name, !tells || got.equals(due), true);
                C.due(name, due.get(0) >= 0 || got.subList(1, got.size()).equals(ahead.subList(1, ahead.size())), true);
            }
        }
    }
}
