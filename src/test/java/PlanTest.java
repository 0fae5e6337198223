/** Promises 23 to 27: free, low, plan, planned, race. */
public final class PlanTest {
    private static final Check CHECK = new Check();

    public static void main(String[] args) {
        keptFree();
        lowTides();
        lowTideHours();
        plansRefused();
        onePool();
        dirtAndBound();
        gangsAndOrder();
        daysForbidden();
        races();
        racesRefused();
        CHECK.finish();
    }

    private static void due(String what, long got, long want) {
        CHECK.due(what, got, want);
    }

    private static void due(String what, boolean got, boolean want) {
        CHECK.due(what, got, want);
    }

    private static void keptFree() {
        PoolCoast x = new PoolCoast();
        x.pool(10, 0, 100, 100, 0, 0, 50);
        due("not yet", x.free(0, 3, false), false);
        due("told", x.free(0, 3, true), true);
        due("told again", x.free(0, 3, true), false);
        due("told off", x.free(0, 3, false), true);
        due("last day", x.free(0, 99, true), true);
        due("day 100", x.free(0, 100, true), false);
        due("day -1", x.free(0, -1, true), false);
        due("pool 1", x.free(1, 3, true), false);
        due("pool -1", x.free(-1, 3, true), false);
    }

    private static void lowTides() {
        PoolCoast x = new PoolCoast();
        x.pool(10, 0, 100, 100, 0, 0, 50);
        // hour 10 of day 0, 12, 14; then the first two days after
        x.turn(60, 0);
        x.turn(72, 200);
        due("the first turn is low", x.low(0, 0), 1);
        due("pool 1", x.low(1, 0), -1);
        due("day -1", x.low(0, -1), -1);
        due("day 100", x.low(0, 100), -1);
        due("day 99", x.low(0, 99), 0);
        x.turn(144, -7);
        x.turn(144 + 60, -7);
        x.turn(144 + 72, 300);
        due("a turn at the level of the one ahead", x.low(0, 1), 0);
        x.turn(288, 100);
        x.turn(288 + 60, 1);
        due("above the floor", x.low(0, 2), 0);
        x.turn(288 + 66, -1);
        due("at most the floor", x.low(0, 2), 1);
        x.turn(432, -400);
        x.turn(432 + 60, -300);
        due("no low one", x.low(0, 3), 0);
    }

    private static void lowTideHours() {
        int[][] tickAndDue = {{41, 0}, {42, 1}, {101, 1}, {102, 0}};
        for (int[] each : tickAndDue) {
            PoolCoast x = new PoolCoast();
            x.pool(10, 0, 100, 100, 0, 0, 50);
            x.turn(each[0], 0);
            due("tick " + each[0], x.low(0, 0), each[1]);
            PoolCoast y = new PoolCoast();
            y.pool(10, 0, 100, 100, 0, 0, 50);
            y.turn(each[0] + 144, 0);
            due("not on day 0", y.low(0, 0), 0);
            due("tick " + each[0] + " of day 1", y.low(0, 1), each[1]);
        }
    }

    /** A coast with a low tide of 0 each day at noon, for so many days, and pools with floor 0. */
    private static PoolCoast tidal(int days, int pools) {
        PoolCoast x = new PoolCoast();
        x.set(0, 0);
        for (int d = 0; d < days; d++) {
            x.turn(144 * d + 72, 0);
            x.turn(144 * d + 130, 1);
        }
        for (int p = 0; p < pools; p++) {
            x.pool(10, 0, 100, 100, 0, 0, 50);
        }
        return x;
    }

    private static void plansRefused() {
        PoolCoast x = tidal(3, 5);
        due("no pools", x.plan(0, 1, 1, 1, 0), -1);
        due("five pools", x.plan(31, 1, 1, 1, 0), -1);
        due("pool 5", x.plan(32, 1, 1, 1, 0), -1);
        due("pools below 0", x.plan(-1, 1, 1, 1, 0), -1);
        due("the lowest", x.plan(Integer.MIN_VALUE, 1, 1, 1, 0), -1);
        due("today", x.plan(1, 0, 1, 1, 0), -1);
        due("0 days", x.plan(1, 1, 0, 1, 0), -1);
        due("7 days", x.plan(1, 1, 7, 1, 0), -1);
        due("0 gangs", x.plan(1, 1, 1, 0, 0), -1);
        due("4 gangs", x.plan(1, 1, 1, 4, 0), -1);
        due("bound -1", x.plan(1, 1, 1, 1, -1), -1);
        due("bound 1000", x.plan(1, 1, 1, 1, 1000), -1);
        due("day 10", x.plan(1, 10, 6, 1, 0), 0);
        due("day 11 is not foretold", x.plan(1, 11, 1, 1, 0), -1);
        due("far day", x.plan(1, Integer.MAX_VALUE, 6, 1, 0), -1);
        due("four pools", x.plan(30, 1, 1, 3, 999), 0);
        x.pass(6);
        due("hour 239 ahead of day 10", x.plan(1, 10, 1, 1, 0), 0);
        x.pass(130);
        due("hour 22: day 10", x.plan(1, 10, 1, 1, 0), 0);
        due("hour 22: day 11", x.plan(1, 11, 1, 1, 0), -1);
        x.pass(2);
        due("hour 23: day 11", x.plan(1, 11, 1, 1, 0), 0);
        PoolCoast y = tidal(1, 1);
        for (int i = 0; i < 47; i++) {
            y.pass(288);
        }
        due("up to day 99", y.plan(1, 95, 5, 1, 0), 0);
        due("beyond day 99", y.plan(1, 95, 6, 1, 0), -1);
        due("day 99", y.plan(1, 99, 1, 1, 0), 0);
        due("day 100", y.plan(1, 100, 1, 1, 0), -1);
    }

    private static void onePool() {
        PoolCoast x = tidal(9, 3);
        x.dirt(1, 4, 20);
        due("none planned yet", x.planned(1), -1);
        // from 4 at day 0's end on: 8, 12, 16
        due("clean enough", x.plan(2, 1, 3, 1, 16), 0);
        due("on none", x.planned(1), -1);
        due("the first of the least", x.plan(2, 1, 3, 1, 15), 1);
        due("day 1", x.planned(1), 1);
        due("not of it", x.planned(0), -1);
        // cleaned on day 1: 0, 4, 8; on day 2: 8, 0, 4; on day 3: 8, 12, 0
        due("one day dirty", x.plan(2, 1, 3, 1, 7), 1 + 10);
        due("the first of the two", x.planned(1), 1);
        due("nothing happens", x.plan(2, 0, 3, 1, 7), -1);
        due("as before", x.planned(1), 1);
        due("pool 3", x.planned(3), -1);
        due("pool -1", x.planned(-1), -1);
    }

    private static void dirtAndBound() {
        PoolCoast x = tidal(9, 1);
        x.dirt(0, 10, 20);
        // WEED counts in what is foretold only: 10 at day 0's end; then 20, 30, 40, 50, 60, 70
        due("no bound", x.plan(1, 1, 6, 1, 999), 0);
        due("above 69", x.plan(1, 1, 6, 1, 69), 1);
        due("day 1", x.planned(0), 1);
        // cleaned on day 1: 0 to 50; on day 2: 20, 0 to 40; on day 3: 20, 30, 0 to 30; on day 4: 20, 30, 40, 0 to 20
        due("above 25", x.plan(1, 1, 6, 1, 25), 1 + 20);
        due("first of the least", x.planned(0), 2);
        due("above 0", x.plan(1, 1, 6, 1, 0), 1 + 50);
        due("day 1 again", x.planned(0), 1);
        x.set(0, 200);
        // storm: 30 at day 0's end
        due("with weed", x.plan(1, 1, 1, 1, 39), 1);
        due("with weed, at the bound", x.plan(1, 1, 1, 1, 40), 0);
    }

    private static void gangsAndOrder() {
        PoolCoast x = tidal(9, 4);
        for (int p = 0; p < 4; p++) {
            x.dirt(p, 10, 0);
        }
        due("one gang, one day", x.plan(15, 1, 1, 1, 15), 1 + 30);
        due("pool 0", x.planned(0), 1);
        due("pool 1", x.planned(1), -1);
        due("two gangs, one day", x.plan(15, 1, 1, 2, 15), 2 + 20);
        due("pool 0 of two", x.planned(0), 1);
        due("pool 1 of two", x.planned(1), 1);
        due("pool 2 of two", x.planned(2), -1);
        // bound 25, two days: 20 and 30; cleaned on day 1: 0, 10; on day 2: 20, 0
        due("two days", x.plan(15, 1, 2, 3, 25), 4);
        due("pool 0 of two days", x.planned(0), 1);
        due("pool 2 of two days", x.planned(2), 1);
        due("pool 3 of two days", x.planned(3), 2);
        due("another set", x.plan(10, 1, 2, 1, 25), 2);
        due("pool 1 of another", x.planned(1), 1);
        due("pool 3 of another", x.planned(3), 2);
        due("pool 0 is not of it", x.planned(0), -1);
    }

    private static void daysForbidden() {
        PoolCoast x = tidal(3, 2);
        x.dirt(0, 10, 0);
        x.dirt(1, 10, 0);
        x.free(0, 1, true);
        // low tides on days 1 and 2 alone
        due("kept free on day 1", x.plan(1, 1, 4, 1, 39), 1);
        due("day 2", x.planned(0), 2);
        x.free(0, 2, true);
        due("never", x.plan(1, 1, 4, 1, 39), 20);
        due("none", x.planned(0), -1);
        x.free(0, 1, false);
        due("day 1 again", x.plan(1, 1, 4, 1, 39), 1);
        due("day 1 is told", x.planned(0), 1);
        x.turn(144 * 3 + 60, -1);
        x.turn(144 * 3 + 66, -2);
        due("pool 1 has days 1 to 3", x.plan(2, 3, 1, 1, 39), 1);
        due("day 3", x.planned(1), 3);
    }

    private static void races() {
        PoolCoast x = new PoolCoast();
        x.turn(0, -500);
        x.set(0, 50);
        x.pool(10, 0, 100, 100, 0, 0, 0);
        x.pump(0, 5);
        // depth at the end of hour h: 3 * (h + 1)
        due("at once", x.race(0, 0, 0, 1, 0, 1200, 500), 0);
        due("from 5 on", x.race(0, 0, 5, 1, 0, 1200, 500), 5);
        due("deep enough", x.race(0, 0, 0, 2, 30, 36, 50), 9);
        due("not for three", x.race(0, 0, 0, 3, 31, 36, 50), -2);
        due("six", x.race(0, 0, 0, 6, 30, 45, 50), 9);
        due("waves too high", x.race(0, 0, 0, 1, 0, 1200, 49), -2);
        x.wave(12, 51);
        due("a high wave in hour 12", x.race(0, 0, 0, 3, 33, 1200, 50), 13);
        due("up to hour 23", x.race(0, 0, 18, 6, 0, 1200, 50), 18);
        due("not all on that day", x.race(0, 0, 19, 6, 0, 1200, 50), -2);
        due("low above high", x.race(0, 0, 0, 1, 5, 4, 500), -2);
        due("tomorrow", x.race(0, 1, 0, 2, 84, 84, 500), -2);
        due("tomorrow in hour 3", x.race(0, 1, 0, 1, 84, 84, 500), 3);
        x.pass(27);
        due("not ahead of now", x.race(0, 0, 0, 1, 0, 1200, 500), 4);
        x.wave(20, 0);
        due("as known now", x.race(0, 0, 0, 1, 0, 1200, 10), 20);
    }

    private static void racesRefused() {
        PoolCoast x = new PoolCoast();
        x.pool(10, 0, 100, 100, 0, 0, 0);
        x.pass(144);
        due("pool 1", x.race(1, 1, 0, 1, 0, 1200, 500), -1);
        due("pool -1", x.race(-1, 1, 0, 1, 0, 1200, 500), -1);
        due("yesterday", x.race(0, 0, 0, 1, 0, 1200, 500), -1);
        due("9 later", x.race(0, 10, 0, 1, 0, 1200, 500), 0);
        due("10 later", x.race(0, 11, 0, 1, 0, 1200, 500), -1);
        due("from -1", x.race(0, 1, -1, 1, 0, 1200, 500), -1);
        due("from 24", x.race(0, 1, 24, 1, 0, 1200, 500), -1);
        due("from 23", x.race(0, 1, 23, 1, 0, 1200, 500), 23);
        due("0 hours", x.race(0, 1, 0, 0, 0, 1200, 500), -1);
        due("7 hours", x.race(0, 1, 0, 7, 0, 1200, 500), -1);
        due("low -1", x.race(0, 1, 0, 1, -1, 1200, 500), -1);
        due("low 1201", x.race(0, 1, 0, 1, 1201, 1200, 500), -1);
        due("high 1201", x.race(0, 1, 0, 1, 0, 1201, 500), -1);
        due("high -1", x.race(0, 1, 0, 1, 0, -1, 500), -1);
        due("wave -1", x.race(0, 1, 0, 1, 0, 1200, -1), -1);
        due("wave 501", x.race(0, 1, 0, 1, 0, 1200, 501), -1);
        for (int i = 0; i < 48; i++) {
            x.pass(288);
        }
        due("day 99", x.race(0, 99, 0, 1, 0, 1200, 500), 0);
        due("day 100", x.race(0, 100, 0, 1, 0, 1200, 500), -1);
    }
}
