import java.util.function.IntUnaryOperator;
import java.util.function.Supplier;
import java.util.function.ToIntBiFunction;

/** Each argument of each call: the last values that are allowed, the first that aren't, and far ones. */
public final class LimitsTest {
    private static final Check CHECK = new Check();
    private static final int FALSE = 0;

    public static void main(String[] args) {
        sea();
        wavesAndSettings();
        newPools();
        poolsInUse();
        looksAtPools();
        tapeAndTests();
        closedAndOpen();
        planning();
        races();
        nights();
        leases();
        ofMany();
        CHECK.finish();
    }

    /** Hour 25 of day 1, a pool that came in hour 0 (floor 100, wall 200), turns at 0 and 100, a lease, a cause. */
    private static PoolCoast ready() {
        PoolCoast x = new PoolCoast();
        x.turn(0, -400);
        x.turn(100, -500);
        x.pool(10, 100, 200, 150, 3, 2, 4);
        x.lease(0, 5, 0, 99);
        x.suspect(0, 50, 2);
        x.suspect(0, 60, 2);
        x.cause(0);
        x.pass(150);
        return x;
    }

    /** As ready(), 287 ticks ahead of the end. */
    private static PoolCoast late() {
        return Coasts.passTo(ready(), Coasts.END - 287);
    }

    /** As ready(), in the first hours of day 97. */
    private static PoolCoast dayNinetySeven() {
        return Coasts.passTo(ready(), 144 * 97 + 8);
    }

    private static void limits(String what, int refused, int least, int most, Supplier<PoolCoast> start,
            ToIntBiFunction<PoolCoast, Integer> call) {
        IntUnaryOperator answer = v -> call.applyAsInt(start.get(), v);
        for (int v : new int[] {least, most}) {
            CHECK.due(what + " " + v + " is taken", answer.applyAsInt(v) != refused, true);
        }
        for (int v : new int[] {least - 1, most + 1, Integer.MIN_VALUE, Integer.MAX_VALUE, Integer.MIN_VALUE + 1}) {
            CHECK.due(what + " " + v, answer.applyAsInt(v), refused);
        }
    }

    private static void limits(String what, int least, int most, ToIntBiFunction<PoolCoast, Integer> call) {
        limits(what, PoolCoast.NONE, least, most, LimitsTest::ready, call);
    }

    private static int bit(boolean b) {
        return b ? 1 : 0;
    }

    private static void sea() {
        limits("first turn's tick", -1, 0, 14399, PoolCoast::new, (x, v) -> x.turn(v, 0));
        limits("turn's tick", 106, 200, (x, v) -> x.turn(v, 0));
        limits("turn's level", -500, 900, (x, v) -> x.turn(150, v));
        limits("sea's tick", -1000, 0, 14399, LimitsTest::ready, (x, v) -> x.sea(v));
        limits("sea's tick without turns", -1000, 0, 14399, PoolCoast::new, (x, v) -> x.sea(v));
    }

    private static void wavesAndSettings() {
        limits("wave's hour at first", -1, 0, 240, PoolCoast::new, (x, v) -> x.wave(v, 7));
        limits("wave's hour", 0, 265, (x, v) -> x.wave(v, 7));
        limits("wave's hour late", -1, 0, 2399, LimitsTest::late, (x, v) -> x.wave(v, 7));
        limits("wave's height", 0, 500, (x, v) -> x.wave(30, v));
        limits("waved's hour", 0, 2399, (x, v) -> x.waved(v, 30));
        limits("waved's known", 0, 2399, (x, v) -> x.waved(30, v));
        limits("set's what", 0, 2, (x, v) -> x.set(v, 9));
        limits("WORST", 0, 500, (x, v) -> x.set(0, v));
        limits("STORM", 0, 500, (x, v) -> x.set(1, v));
        limits("n", 1, 24, (x, v) -> x.set(2, v));
    }

    private static void newPools() {
        limits("area", 1, 2000, (x, v) -> x.pool(v, 0, 100, 50, 3, 2, 4));
        limits("floor", -300, 800, (x, v) -> x.pool(7, v, 900, 850, 3, 2, 4));
        limits("floor below the wall", -300, 99, (x, v) -> x.pool(7, v, 100, 100, 3, 2, 1));
        limits("wall", 101, 900, (x, v) -> x.pool(7, 100, v, 100, 3, 2, 1));
        limits("sill", 100, 200, (x, v) -> x.pool(7, 100, 200, v, 3, 2, 4));
        limits("sluice", 0, 100, (x, v) -> x.pool(7, 100, 200, 150, v, 2, 4));
        limits("over", 0, 100, (x, v) -> x.pool(7, 100, 200, 150, 3, v, 4));
        limits("depth", 0, 100, (x, v) -> x.pool(7, 100, 200, 150, 3, 2, v));
        limits("depth of a low pool", 0, 250, (x, v) -> x.pool(7, -300, -50, -50, 3, 2, v));
    }

    private static void poolsInUse() {
        limits("dirt's pool", FALSE, 0, 0, LimitsTest::ready, (x, v) -> bit(x.dirt(v, 1, 1)));
        limits("sand", FALSE, 0, 20, LimitsTest::ready, (x, v) -> bit(x.dirt(0, v, 20)));
        limits("weed", FALSE, 0, 20, LimitsTest::ready, (x, v) -> bit(x.dirt(0, 20, v)));
        limits("crack's pool", 0, 0, (x, v) -> x.crack(v, 150, 1));
        limits("crack's level", 100, 200, (x, v) -> x.crack(0, v, 1));
        limits("crack's rate", 1, 50, (x, v) -> x.crack(0, 150, v));
        limits("mend's pool", 0, 0, (x, v) -> x.mend(v));
        limits("sluice's pool", FALSE, 0, 0, LimitsTest::ready, (x, v) -> bit(x.sluice(v, true)));
        limits("pump's pool", -2000, 0, 0, LimitsTest::ready, (x, v) -> x.pump(v, 5));
        limits("pump's units", -2000, -1000, 1000, LimitsTest::ready, (x, v) -> x.pump(0, v));
        limits("clean's pool", 0, 0, (x, v) -> x.clean(v));
        limits("ticks", 1, 288, (x, v) -> x.pass(v));
        limits("ticks to the end", -1, 1, 287, LimitsTest::late, (x, v) -> x.pass(v));
        for (int depth = 0; depth <= 7; depth++) {
            PoolCoast x = new PoolCoast();
            int pool = x.pool(7, -100, 200, 150, 3, 2, depth);
            CHECK.due("clean at depth " + depth, x.clean(pool), depth <= 5 ? 0 : -1);
        }
    }

    private static void looksAtPools() {
        limits("about's pool", -1000, 0, 0, LimitsTest::ready, (x, v) -> x.about(v, 0));
        limits("about's what", -1000, 0, 7, LimitsTest::ready, (x, v) -> x.about(0, v));
        limits("hour's pool", -1000, 0, 0, LimitsTest::ready, (x, v) -> x.hour(v, 25, 0));
        limits("hour's hour at first", -1000, 0, 240, LimitsTest::newPool, (x, v) -> x.hour(0, v, 0));
        limits("hour's hour", -1000, 0, 265, LimitsTest::ready, (x, v) -> x.hour(0, v, 0));
        limits("hour's hour of a later pool", -1000, 25, 265, LimitsTest::secondPool, (x, v) -> x.hour(1, v, 0));
        limits("hour's hour late", -1000, 0, 2399, LimitsTest::late, (x, v) -> x.hour(0, v, 0));
        limits("hour's what of an hour kept", -1000, 0, 2, LimitsTest::ready, (x, v) -> x.hour(0, 3, v));
        limits("hour's what of an hour to come", -1000, 0, 2, LimitsTest::ready, (x, v) -> x.hour(0, 33, v));
    }

    private static PoolCoast newPool() {
        PoolCoast x = new PoolCoast();
        x.pool(10, 100, 200, 150, 3, 2, 4);
        return x;
    }

    private static PoolCoast secondPool() {
        PoolCoast x = ready();
        x.pool(10, 100, 200, 150, 3, 2, 4);
        return x;
    }

    private static PoolCoast withTape() {
        PoolCoast x = new PoolCoast();
        x.feed(1, 2, 3, 4, 5);
        x.feed(1, 2, 3, 4, 5);
        return x;
    }

    private static void tapeAndTests() {
        limits("end of an empty tape", -1, 0, 0, PoolCoast::new, (x, v) -> x.end(v));
        limits("end", -1, 0, 40, LimitsTest::withTape, (x, v) -> x.end(v));
        limits("test's pool", 0, 0, (x, v) -> x.test(v, 3, 5));
        limits("test's hour", 0, 25, (x, v) -> x.test(0, v, 5));
        limits("test's hour of a later pool", -1, 0, 25, LimitsTest::secondPool, (x, v) -> x.test(1, v, 5));
        limits("test's result", 0, 9999, (x, v) -> x.test(0, 3, v));
    }

    private static void closedAndOpen() {
        limits("closed's pool", 0, 0, (x, v) -> x.closed(v, 30, 30));
        limits("closed's hour", 0, 265, (x, v) -> x.closed(0, v, 30));
        limits("closed's hour of a later pool", -1, 25, 265, LimitsTest::secondPool, (x, v) -> x.closed(1, v, 30));
        limits("closed's hour late", -1, 0, 2399, LimitsTest::late, (x, v) -> x.closed(0, v, 30));
        limits("closed's known", 0, 2399, (x, v) -> x.closed(0, 30, v));
        limits("open's pool", 0, 0, (x, v) -> x.open(v, 1, 30));
        limits("open's day", 0, 10, (x, v) -> x.open(0, v, 30));
        limits("open's day of a later pool", -1, 2, 10, LimitsTest::secondPool, (x, v) -> x.open(1, v, 30));
        limits("open's day late", -1, 0, 99, LimitsTest::late, (x, v) -> x.open(0, v, 30));
        limits("open's known", 0, 2399, (x, v) -> x.open(0, 1, v));
    }

    /** As ready(), with five pools. */
    private static PoolCoast fivePools() {
        PoolCoast x = ready();
        for (int i = 1; i < 5; i++) {
            x.pool(10, 100, 200, 150, 3, 2, 4);
        }
        return x;
    }

    private static PoolCoast fourPools() {
        PoolCoast x = ready();
        for (int i = 1; i < 4; i++) {
            x.pool(10, 100, 200, 150, 3, 2, 4);
        }
        return x;
    }

    private static void planning() {
        limits("free's pool", FALSE, 0, 0, LimitsTest::ready, (x, v) -> bit(x.free(v, 3, true)));
        limits("free's day", FALSE, 0, 99, LimitsTest::ready, (x, v) -> bit(x.free(0, v, true)));
        limits("low's pool", 0, 0, (x, v) -> x.low(v, 3));
        limits("low's day", 0, 99, (x, v) -> x.low(0, v));
        limits("plan's pools", -1, 1, 15, LimitsTest::fourPools, (x, v) -> x.plan(v, 2, 1, 1, 0));
        limits("plan's day", 2, 11, (x, v) -> x.plan(1, v, 6, 1, 0));
        limits("plan's day late", -1, 98, 99, LimitsTest::dayNinetySeven, (x, v) -> x.plan(1, v, 1, 1, 0));
        limits("plan's days", 1, 6, (x, v) -> x.plan(1, 2, v, 1, 0));
        limits("plan's days late", -1, 1, 2, LimitsTest::dayNinetySeven, (x, v) -> x.plan(1, 98, v, 1, 0));
        limits("plan's gangs", 1, 3, (x, v) -> x.plan(1, 2, 1, v, 0));
        limits("plan's bound", 0, 999, (x, v) -> x.plan(1, 2, 1, 1, v));
        PoolCoast five = fivePools();
        for (int pools = 1; pools < 64; pools++) {
            boolean fits = pools < 32 && Integer.bitCount(pools) <= 4;
            CHECK.due("plan of the set " + pools, five.plan(pools, 2, 1, 1, 999), fits ? 0 : -1);
        }
    }

    private static void races() {
        limits("race's pool", 0, 0, (x, v) -> x.race(v, 2, 0, 1, 0, 1200, 500));
        limits("race's day", 1, 10, (x, v) -> x.race(0, v, 0, 1, 0, 1200, 500));
        // in the last hour of a day 240 hours reach to the end of the day 10 later, and still it is 9 that count
        limits("race's day in the last hour of a day", -1, 1, 10, LimitsTest::lastHourOfDay,
            (x, v) -> x.race(0, v, 0, 1, 0, 1200, 500));
        limits("race's day late", -1, 97, 99, LimitsTest::dayNinetySeven, (x, v) -> x.race(0, v, 0, 1, 0, 1200, 500));
        limits("race's first hour", 0, 23, (x, v) -> x.race(0, 2, v, 1, 0, 1200, 500));
        limits("race's hours", 1, 6, (x, v) -> x.race(0, 2, 0, v, 0, 1200, 500));
        limits("race's low", 0, 1200, (x, v) -> x.race(0, 2, 0, 1, v, 1200, 500));
        limits("race's high", 0, 1200, (x, v) -> x.race(0, 2, 0, 1, 0, v, 500));
        limits("race's wave", 0, 500, (x, v) -> x.race(0, 2, 0, 1, 0, 1200, v));
    }

    private static PoolCoast lastHourOfDay() {
        return Coasts.passTo(ready(), 287);
    }

    private static void nights() {
        limits("night's pool", 0, 0, (x, v) -> x.night(v, 5, 4, 1));
        limits("night's a", 4, 1200, (x, v) -> x.night(0, v, 4, 1));
        limits("night's a to 0", 0, 1200, (x, v) -> x.night(0, v, 0, 1));
        limits("night's b", 0, 5, (x, v) -> x.night(0, 5, v, 1));
        limits("night's b from 1200", 0, 1200, (x, v) -> x.night(0, 1200, v, 1));
        limits("night's ticks", 1, 100, (x, v) -> x.night(0, 5, 4, v));
        limits("suspect's pool", 0, 0, (x, v) -> x.suspect(v, 5, 4));
        limits("suspect's depth", 0, 1200, (x, v) -> x.suspect(0, v, 4));
        limits("suspect's rate", 1, 50, (x, v) -> x.suspect(0, 5, v));
        limits("cause's pool", 0, 0, (x, v) -> x.cause(v));
        limits("set of a cause", 0, 2, (x, v) -> x.causes(v, 0));
        limits("suspect of a pair", 0, 1, (x, v) -> x.causes(2, v));
        limits("suspect of a set of one", 0, 0, (x, v) -> x.causes(1, v));
    }

    private static void leases() {
        limits("lease's pool", 0, 0, (x, v) -> x.lease(v, 5, 0, 1));
        limits("coins", 0, 999, (x, v) -> x.lease(0, v, 0, 1));
        limits("first day", 0, 99, (x, v) -> x.lease(0, 5, v, 99));
        limits("first day of a short one", 0, 7, (x, v) -> x.lease(0, 5, v, 7));
        limits("last day", 0, 99, (x, v) -> x.lease(0, 5, 0, v));
        limits("last day of a late one", 99, 99, (x, v) -> x.lease(0, 5, 99, v));
        limits("due's lease", 0, 0, (x, v) -> x.due(v, 3));
        limits("due's known", 0, 24, (x, v) -> x.due(0, v));
        limits("pay's lease", -1000000, 0, 0, LimitsTest::ready, (x, v) -> x.pay(v));
    }

    private static void ofMany() {
        limits("count", -1, 0, 10, PoolCoast::new, (x, v) -> x.count(v));
        limits("count of a lease", 20, 20, (x, v) -> v < 11 && v >= 0 ? -1 : x.count(v));
        for (int full = 1; full <= 11; full++) {
            PoolCoast x = new PoolCoast();
            for (int p = 0; p < full; p++) {
                x.pool(10, 100, 200, 150, 3, 2, 4);
            }
            limits("about of " + full, -1000, 0, full - 1, () -> x, (y, v) -> y.about(v, 0));
            limits("mend of " + full, -1, 0, full - 1, () -> x, (y, v) -> y.mend(v));
            limits("low of " + full, -1, 0, full - 1, () -> x, (y, v) -> y.low(v, 0));
        }
        for (int full = 1; full <= 10; full++) {
            PoolCoast x = ready();
            for (int l = 1; l < full; l++) {
                x.lease(0, 5, 0, 1);
            }
            limits("due of " + full, -1, 0, full - 1, () -> x, (y, v) -> y.due(v, 3));
            limits("paid of " + full, -1, 20, 19 + full, () -> x, (y, v) -> v < 11 && v >= 0 ? -1 : y.count(v));
        }
    }
}
