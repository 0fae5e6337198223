import java.util.ArrayList;
import java.util.List;
import java.util.function.Supplier;
import java.util.function.ToIntFunction;

/**
 * A call that is refused changes nothing that later calls show: behind each one all that can be asked and done
 * answers as it does on an equal coast on which that call was not made.
 */
public final class RefusedTest {
    private static final Check CHECK = new Check();
    private static final int FALSE = 0;
    private static final int FAR = Integer.MAX_VALUE;

    private final String state;
    private final Supplier<PoolCoast> start;
    private final List<Integer> asBefore;

    private RefusedTest(String state, Supplier<PoolCoast> start) {
        this.state = state;
        this.start = start;
        this.asBefore = answers(start.get());
    }

    public static void main(String[] args) {
        RefusedTest some = new RefusedTest("some", RefusedTest::some);
        some.wrongArguments();
        some.wrongPools();
        RefusedTest full = new RefusedTest("full", RefusedTest::full);
        full.wrongArguments();
        full.wrongPools();
        full.nothingMore();
        RefusedTest end = new RefusedTest("end", () -> Coasts.passTo(some(), Coasts.END));
        end.wrongPools();
        end.nothingAtTheEnd();
        RefusedTest fullEnd = new RefusedTest("full, at the end", () -> Coasts.passTo(full(), Coasts.END));
        fullEnd.nothingAtTheEnd();
        tapeAsItWas();
        CHECK.finish();
    }

    /** Three pools with all that can be told of them, at tick 160 of day 1; a tape that is not yet rules. */
    private static PoolCoast some() {
        PoolCoast x = new PoolCoast();
        for (int i = 0; i < 30; i++) {
            x.turn(60 + 40 * i, i % 2 * 130 - 10);
        }
        for (int p = 0; p < 3; p++) {
            x.pool(20 + p, 10 * p - 10, 110, 50, 6, 3, 40 + p);
            x.dirt(p, 3 + p, 2);
            x.crack(p, 50, 1 + p);
            x.suspect(p, 30, 2);
            x.suspect(p, 20 + p, 3);
            x.night(p, 100, 95, 2);
        }
        x.sluice(0, true);
        x.pump(1, 7);
        x.wave(3, 140);
        x.wave(30, 160);
        RulesTest.tell(x, "sea>80 or wave>150;test<70 and depth<60");
        x.test(0, 0, 50);
        x.lease(0, 9, 0, 5);
        x.lease(2, 4, 0, 0);
        x.free(1, 3, true);
        x.pass(160);
        x.pay(1);
        x.plan(7, 2, 3, 1, 8);
        x.cause(0);
        RulesTest.put(x, "age>2 or dirt>3;not(hour<5)");
        return x;
    }

    /** As some(), with no room for more of anything. */
    private static PoolCoast full() {
        PoolCoast x = some();
        for (int i = x.count(1); i < 500; i++) {
            x.turn(60 + 40 * 29 + 20 * (i - 29), i % 2 * 130 - 10);
        }
        for (int i = x.count(2); i < 1500; i++) {
            x.wave(i % 260, i % 200);
        }
        for (int i = x.count(5); i < 500; i++) {
            x.test(i % 3, i % 20, i);
        }
        for (int p = x.count(3); p < 11; p++) {
            x.pool(20 + p, 0, 100, 50, 6, 3, 40 + p);
        }
        for (int i = x.count(6); i < 10; i++) {
            x.lease(i, i, i, 50);
        }
        for (int i = 0; i < 20; i++) {
            x.crack(i % 3, 50, 3);
            x.suspect(i % 3, 10 * i, 9);
            x.night(0, 100, 95, 2);
            x.night(1, 100, 95, 2);
        }
        for (int i = x.count(4); i < 10; i++) {
            RulesTest.tell(x, "day>3;sea>100;dirt>40");
        }
        RulesTest.put(x, "age>2 or dirt>3" + " ".repeat(285));
        x.cause(1);
        return x;
    }

    /** Looks that change nothing, then all that can be done, and what it shows. */
    private static List<Integer> answers(PoolCoast x) {
        List<Integer> all = new ArrayList<>();
        look(x, all);
        for (int p = 0; p < 12; p++) {
            all.add(x.plan(1 << p, x.count(0) / 144 + 2, 3, 1, 8));
            all.add(x.planned(p));
            all.add(x.clean(p));
            all.add(x.pay(p));
        }
        all.add(x.pass(150));
        look(x, all);
        all.add(x.rules());
        look(x, all);
        for (int p = 0; p < 12; p++) {
            all.add(x.cause(p));
            evidence(x, all);
            all.add(x.crack(p, 60, 1));
            all.add(x.mend(p));
            all.add(x.pump(p, 1));
            all.add(x.sluice(p, true) ? 1 : 0);
            all.add(x.free(p, 3, false) ? 1 : 0);
            all.add(x.free(p, 4, false) ? 1 : 0);
            all.add(x.dirt(p, 1, 1) ? 1 : 0);
            all.add(x.suspect(p, 3, 3));
            all.add(x.night(p, 4, 4, 4));
        }
        all.add(x.lease(0, 1, 1, 1));
        all.add(x.test(0, 1, 1));
        all.add(x.pool(10, 0, 100, 50, 0, 0, 9));
        for (int gap = 5; gap <= 101; gap++) {
            all.add(x.turn(1220 + gap, 8));
        }
        look(x, all);
        return all;
    }

    private static void look(PoolCoast x, List<Integer> all) {
        for (int what = -1; what < 32; what++) {
            all.add(x.count(what));
        }
        for (int tick = -1; tick <= Coasts.END; tick += 31) {
            all.add(x.sea(tick));
        }
        for (int hour = 0; hour < 300; hour += 3) {
            all.add(x.waved(hour, hour));
            all.add(x.waved(hour, 2399));
        }
        evidence(x, all);
        for (int p = 0; p < 12; p++) {
            lookAtPool(x, p, all);
        }
        for (int l = 0; l < 10; l++) {
            all.add(x.due(l, x.count(0) / 6 - 1));
            all.add(x.due(l, 25));
        }
    }

    private static void evidence(PoolCoast x, List<Integer> all) {
        for (int k = -1; k < 37; k++) {
            all.add(x.causes(k, 0));
            all.add(x.causes(k, 1));
        }
        all.add(x.look());
    }

    private static void lookAtPool(PoolCoast x, int p, List<Integer> all) {
        all.add(x.planned(p));
        for (int what = 0; what < 8; what++) {
            all.add(x.about(p, what));
        }
        for (int hour = 0; hour < 300; hour += 5) {
            for (int what = 0; what < 3; what++) {
                all.add(x.hour(p, hour, what));
            }
            all.add(x.closed(p, hour, hour));
            all.add(x.closed(p, hour, 2399));
        }
        for (int day = 0; day < 12; day++) {
            all.add(x.open(p, day, 30));
            all.add(x.low(p, day));
        }
    }

    private void refuse(String what, int refused, ToIntFunction<PoolCoast> call) {
        PoolCoast x = start.get();
        CHECK.due(state + ": " + what, call.applyAsInt(x), refused);
        List<Integer> behind = answers(x);
        int other = behind.size() == asBefore.size() ? 0 : 1;
        for (int i = 0; i < behind.size() && other == 0; i++) {
            other = behind.get(i).equals(asBefore.get(i)) ? 0 : 1;
        }
        CHECK.due(state + ": other answers behind " + what, other, 0);
    }

    private void refuse(String what, ToIntFunction<PoolCoast> call) {
        refuse(what, PoolCoast.NONE, call);
    }

    private static int bit(boolean b) {
        return b ? 1 : 0;
    }

    private void wrongArguments() {
        refuse("turn too near", x -> x.turn(1220 + 5, 0));
        refuse("turn too far", x -> x.turn(14400, 0));
        refuse("turn too low", x -> x.turn(1220 + 50, -501));
        refuse("turn too high", x -> x.turn(1220 + 50, 901));
        refuse("wave ahead of all", x -> x.wave(-1, 0));
        refuse("wave too far", x -> x.wave(26 + 241, 0));
        refuse("wave below 0", x -> x.wave(30, -1));
        refuse("wave too high", x -> x.wave(30, 501));
        refuse("set 3", x -> x.set(3, 5));
        refuse("WORST", x -> x.set(0, 501));
        refuse("STORM", x -> x.set(1, -1));
        refuse("n", x -> x.set(2, 0));
        refuse("pool's area", x -> x.pool(0, 0, 100, 50, 0, 0, 9));
        refuse("pool's depth", x -> x.pool(10, 0, 100, 50, 0, 0, 101));
        refuse("sand", FALSE, x -> bit(x.dirt(0, 21, 7)));
        refuse("weed", FALSE, x -> bit(x.dirt(0, 7, 21)));
        refuse("crack's level", x -> x.crack(1, 111, 7));
        refuse("crack's rate", x -> x.crack(1, 60, 51));
        refuse("sluice open again", FALSE, x -> bit(x.sluice(0, true)));
        refuse("sluice shut again", FALSE, x -> bit(x.sluice(1, false)));
        refuse("pump", -2000, x -> x.pump(1, 1001));
        refuse("clean with too much water", x -> x.clean(1));
        refuse("pass 0", x -> x.pass(0));
        refuse("pass 289", x -> x.pass(289));
        refuse("end too far", x -> x.end(x.count(7) + 1));
        refuse("end below 0", x -> x.end(-1));
        refuse("test to come", x -> x.test(0, 27, 5));
        refuse("test's result", x -> x.test(0, 26, 10000));
        refuse("free again", FALSE, x -> bit(x.free(1, 3, true)));
        refuse("free's day", FALSE, x -> bit(x.free(1, 100, true)));
        refuse("plan of today", x -> x.plan(3, 1, 1, 1, 0));
        refuse("plan of no pools", x -> x.plan(0, 2, 1, 1, 0));
        refuse("plan of five", x -> x.plan(31, 2, 1, 1, 0));
        refuse("plan too far", x -> x.plan(3, 12, 1, 1, 0));
        refuse("plan's days", x -> x.plan(3, 2, 7, 1, 0));
        refuse("plan's gangs", x -> x.plan(3, 2, 1, 4, 0));
        refuse("plan's bound", x -> x.plan(3, 2, 1, 1, 1000));
        refuse("race", x -> x.race(0, 0, 0, 1, 0, 1200, 500));
        refuse("night's a below b", x -> x.night(0, 4, 5, 1));
        refuse("night's ticks", x -> x.night(0, 5, 4, 0));
        refuse("suspect's depth", x -> x.suspect(0, 1201, 1));
        refuse("suspect's rate", x -> x.suspect(0, 5, 0));
        refuse("lease's coins", x -> x.lease(0, 1000, 0, 1));
        refuse("lease's days", x -> x.lease(0, 5, 0, 100));
        refuse("due to come", x -> x.due(0, 26));
        refuse("pay", -1000000, x -> x.pay(10));
    }

    private void wrongPools() {
        for (int p : new int[] {-1, 11, FAR}) {
            refuse("dirt of " + p, FALSE, x -> bit(x.dirt(p, 7, 7)));
            refuse("crack of " + p, x -> x.crack(p, 60, 7));
            refuse("mend of " + p, x -> x.mend(p));
            refuse("sluice of " + p, FALSE, x -> bit(x.sluice(p, true)));
            refuse("pump of " + p, -2000, x -> x.pump(p, 7));
            refuse("clean of " + p, x -> x.clean(p));
            refuse("about of " + p, -1000, x -> x.about(p, 0));
            refuse("hour of " + p, -1000, x -> x.hour(p, 26, 0));
            refuse("test of " + p, x -> x.test(p, 3, 7));
            refuse("closed of " + p, x -> x.closed(p, 26, 26));
            refuse("open of " + p, x -> x.open(p, 1, 26));
            refuse("free of " + p, FALSE, x -> bit(x.free(p, 4, true)));
            refuse("low of " + p, x -> x.low(p, 1));
            refuse("race of " + p, x -> x.race(p, 2, 0, 1, 0, 1200, 500));
            refuse("night of " + p, x -> x.night(p, 5, 4, 1));
            refuse("suspect of " + p, x -> x.suspect(p, 5, 4));
            refuse("cause of " + p, x -> x.cause(p));
            refuse("lease of " + p, x -> x.lease(p, 5, 0, 1));
        }
        refuse("plan of pool 11", x -> x.plan(1 << 11, 2, 1, 1, 0));
        refuse("plan of a set below 0", x -> x.plan(-1, 2, 1, 1, 0));
    }

    /** What would be taken if there were room. */
    private void nothingMore() {
        refuse("turn 501", x -> x.turn(60 + 40 * 29 + 20 * 471, 0));
        refuse("row 1501", x -> x.wave(30, 7));
        refuse("pool 12", x -> x.pool(10, 0, 100, 50, 0, 0, 9));
        refuse("crack 5", x -> x.crack(0, 60, 7));
        refuse("byte 301", x -> x.feed(1, 2, 3, 4, 5));
        refuse("rules 11", x -> x.rules());
        refuse("test 501", x -> x.test(0, 3, 7));
        refuse("night 21", x -> x.night(0, 5, 4, 1));
        refuse("suspect 9", x -> x.suspect(0, 5, 4));
        refuse("lease 11", x -> x.lease(0, 5, 0, 1));
    }

    /** What would be taken ahead of the end. */
    private void nothingAtTheEnd() {
        refuse("turn", x -> x.turn(1220 + 50, 0));
        refuse("wave", x -> x.wave(2399, 7));
        for (int what = 0; what < 3; what++) {
            int each = what;
            refuse("set " + what, x -> x.set(each, 20));
        }
        refuse("pool", x -> x.pool(10, 0, 100, 50, 0, 0, 9));
        refuse("dirt", FALSE, x -> bit(x.dirt(0, 7, 7)));
        refuse("crack", x -> x.crack(0, 60, 7));
        refuse("mend", x -> x.mend(0));
        refuse("sluice", FALSE, x -> bit(x.sluice(0, false)));
        refuse("pump", -2000, x -> x.pump(1, 3));
        for (int p = 0; p < 3; p++) {
            int each = p;
            refuse("clean " + p, x -> x.clean(each));
        }
        refuse("pass", x -> x.pass(1));
        refuse("rules", x -> x.rules());
        refuse("test", x -> x.test(0, 3, 7));
        refuse("free", FALSE, x -> bit(x.free(0, 4, true)));
        refuse("not free", FALSE, x -> bit(x.free(1, 3, false)));
        refuse("plan of day 99", x -> x.plan(1, 99, 1, 1, 0));
        refuse("plan of day 100", x -> x.plan(1, 100, 1, 1, 0));
        refuse("plan of day 101", x -> x.plan(1, 101, 1, 1, 0));
        refuse("race on day 99", x -> x.race(0, 99, 0, 1, 0, 1200, 500));
        refuse("race on day 100", x -> x.race(0, 100, 0, 1, 0, 1200, 500));
        refuse("night", x -> x.night(0, 5, 4, 1));
        refuse("suspect", x -> x.suspect(0, 5, 4));
        refuse("lease", x -> x.lease(0, 5, 0, 1));
        for (int l = 0; l < 2; l++) {
            int each = l;
            refuse("pay " + l, -1000000, x -> x.pay(each));
        }
    }

    /** The bytes themselves: a feed and an end that are refused leave them, and so does a rules() that is. */
    private static void tapeAsItWas() {
        PoolCoast x = new PoolCoast();
        RulesTest.put(x, "day<1;hour<2" + " ".repeat(288));
        CHECK.due("feed more", x.feed(0, 0, 0, 0, 0), -1);
        CHECK.due("end further", x.end(301), -1);
        CHECK.due("end ahead", x.end(-1), -1);
        CHECK.due("300 bytes as they were", x.rules(), 2);
        PoolCoast y = new PoolCoast();
        RulesTest.put(y, "day<1");
        CHECK.due("end further than 5", y.end(6), -1);
        CHECK.due("5 bytes as they were", y.rules(), 1);
        for (int i = 1; i < 10; i++) {
            RulesTest.tell(y, "day<1");
        }
        RulesTest.put(y, "day<1;day<2");
        CHECK.due("no more rules", y.rules(), -1);
        CHECK.due("the tape has what it had", y.count(7), 11);
        CHECK.due("rules as they were", y.count(4), 10);
    }
}
