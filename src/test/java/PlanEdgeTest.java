/** The edges that the terms name for cleaning plans, low tides, what is KEPT FREE, and races (promises 23 to 27). */
public final class PlanEdgeTest {
    private static final Check CHECK = new Check();

    public static void main(String[] args) {
        freeDays();
        lowTidesByTheHour();
        lowTidesByTheLevel();
        lowTidesOfTheDay();
        plansOfTheFirstDay();
        foretoldDirt();
        boundByOne();
        cleanedDays();
        sixDaysFourPools();
        gangsByOne();
        firstOfTheLeast();
        daysAlone();
        plannedBefore();
        racesByDepth();
        racesByWaves();
        racesByHours();
        racesToday();
        CHECK.finish();
    }

    private static void due(String what, long got, long want) {
        CHECK.due(what, got, want);
    }

    private static void due(String what, boolean got, boolean want) {
        CHECK.due(what, got, want);
    }

    /** A coast with a low tide of 0 at noon on so many days, and pools with floor 0 and SAND 10. */
    private static PoolCoast tidal(int days, int pools) {
        PoolCoast x = new PoolCoast();
        x.set(0, 0);
        for (int d = 0; d < days; d++) {
            x.turn(144 * d + 72, 0);
            x.turn(144 * d + 130, 1);
        }
        for (int p = 0; p < pools; p++) {
            x.pool(10, 0, 100, 100, 0, 0, 50);
            x.dirt(p, 10, 0);
        }
        return x;
    }

    private static void freeDays() {
        PoolCoast x = tidal(1, 2);
        Coasts.passTo(x, 1000);
        for (int day : new int[] {0, 6, 7, 99}) {
            due("not told " + day, x.free(0, day, false), false);
            due("told " + day, x.free(0, day, true), true);
            due("again " + day, x.free(0, day, true), false);
            due("of the other pool " + day, x.free(1, day, true), true);
            due("told off " + day, x.free(0, day, false), true);
            due("told off again " + day, x.free(0, day, false), false);
            due("the other one still " + day, x.free(1, day, true), false);
        }
        due("day -1", x.free(0, -1, true), false);
        due("day -1 told off", x.free(0, -1, false), false);
        due("day 100", x.free(0, 100, true), false);
        Coasts.passTo(x, 14399);
        due("in the last tick", x.free(0, 99, true), true);
        x.pass(1);
        due("at the end", x.free(0, 99, false), false);
    }

    private static void lowTidesByTheHour() {
        for (int hour = 0; hour < 24; hour++) {
            for (int tick = 144 + 6 * hour; tick < 150 + 6 * hour; tick += 5) {
                PoolCoast x = new PoolCoast();
                x.pool(10, 20, 100, 100, 0, 0, 0);
                x.turn(tick - 50, 100);
                x.turn(tick, 20);
                boolean byDay = hour >= 7 && hour <= 16;
                due("hour " + hour + ", tick " + tick, x.low(0, 1), byDay ? 1 : 0);
            }
        }
    }

    private static void lowTidesByTheLevel() {
        // the turn ahead, the turn, whether it is a low one not above the floor of 20
        int[][] cases = {{21, 20, 1}, {22, 21, 0}, {20, 20, 0}, {19, 20, 0}, {20, 19, 1}, {-500, -499, 0},
            {-499, -500, 1}, {900, -500, 1}, {-500, 900, 0}};
        for (int[] each : cases) {
            PoolCoast x = new PoolCoast();
            x.pool(10, 20, 100, 100, 0, 0, 0);
            x.turn(0, each[0]);
            x.turn(60, each[1]);
            due("from " + each[0] + " to " + each[1], x.low(0, 0), each[2]);
        }
        for (int level = 19; level <= 21; level++) {
            PoolCoast x = new PoolCoast();
            x.pool(10, 20, 100, 100, 0, 0, 0);
            x.turn(60, level);
            due("the first turn at " + level, x.low(0, 0), level <= 20 ? 1 : 0);
        }
        PoolCoast y = new PoolCoast();
        y.pool(10, -300, 100, 100, 0, 0, 0);
        y.pool(10, 800, 900, 900, 0, 0, 0);
        y.turn(0, 900);
        y.turn(60, 800);
        due("no further than the low pool's floor", y.low(0, 0), 0);
        due("to the high pool's floor", y.low(1, 0), 1);
    }

    private static void lowTidesOfTheDay() {
        PoolCoast x = new PoolCoast();
        x.pool(10, 0, 100, 100, 0, 0, 0);
        due("without turns", x.low(0, 0), 0);
        x.turn(41, -1);
        x.turn(101, 5);
        x.turn(107, -1);
        x.turn(180, 5);
        x.turn(240, -1);
        due("low ones by night alone", x.low(0, 0), 0);
        due("in hour 16 of the next day", x.low(0, 1), 1);
        x.turn(246, -2);
        due("one more by night", x.low(0, 1), 1);
        PoolCoast midnight = new PoolCoast();
        midnight.pool(10, 0, 100, 100, 0, 0, 0);
        midnight.turn(143, 5);
        midnight.turn(204, -1);
        midnight.turn(288, 5);
        midnight.turn(348, -1);
        due("a turn in the tick ahead of the day", midnight.low(0, 1), 1);
        due("a turn in the day's first tick", midnight.low(0, 2), 1);
        PoolCoast late = Coasts.passTo(new PoolCoast(), 14400 - 144);
        late.pool(10, 0, 100, 100, 0, 0, 0);
        late.turn(14400 - 144 + 42, 0);
        due("on the last day", late.low(0, 99), 1);
        due("on the day ahead of it", late.low(0, 98), 0);
        due("no day 100", late.low(0, 100), -1);
    }

    private static void plansOfTheFirstDay() {
        for (int tick : new int[] {0, 143, 144, 287}) {
            PoolCoast x = Coasts.passTo(tidal(20, 1), tick);
            int today = tick / 144;
            due("today at " + tick, x.plan(1, today, 1, 1, 999), -1);
            due("yesterday at " + tick, x.plan(1, today - 1, 1, 1, 999), -1);
            due("tomorrow at " + tick, x.plan(1, today + 1, 1, 1, 999), 0);
            int last = (tick / 6 + 241) / 24;
            due("as far as is foretold at " + tick, x.plan(1, last, 6, 1, 999), 0);
            due("cleaned as far as is foretold at " + tick, x.plan(1, last, 1, 1, 0), 1);
            due("the furthest day at " + tick, x.planned(0), last);
            due("further at " + tick, x.plan(1, last + 1, 1, 1, 999), -1);
        }
        PoolCoast y = Coasts.passTo(tidal(1, 1), 144 * 99 - 1);
        due("the last day, 990 and 10", y.plan(1, 99, 1, 1, 999), 10);
        due("two days from it on", y.plan(1, 99, 2, 1, 999), -1);
        y.pass(1);
        due("on the last day itself", y.plan(1, 99, 1, 1, 999), -1);
        due("behind the last day", y.plan(1, 100, 1, 1, 999), -1);
        y.pass(144);
        due("at the end", y.plan(1, 100, 1, 1, 999), -1);
        due("behind the end", y.plan(1, 101, 1, 1, 999), -1);
    }

    /** What is foretold for the hour ahead of the first day has WEED too, the days behind it have SAND alone. */
    private static void foretoldDirt() {
        PoolCoast x = tidal(0, 1);
        x.dirt(0, 3, 7);
        x.set(1, 0);
        due("10 and 3", x.plan(1, 1, 1, 1, 12), 10);
        due("10 and 3 are not above 13", x.plan(1, 1, 1, 1, 13), 0);
        due("three days' 10 and 3", x.plan(1, 3, 1, 1, 32), 10);
        due("33 are not above 33", x.plan(1, 3, 1, 1, 33), 0);
        due("13, 16, 19, 22, 25, 28", x.plan(1, 1, 6, 1, 20), 30);
        due("28 are not above 28", x.plan(1, 1, 6, 1, 28), 0);
        due("28 are above 27", x.plan(1, 1, 6, 1, 27), 10);
        x.pass(144);
        due("from what is now", x.plan(1, 2, 1, 1, 22), 10);
        due("23 are not above 23", x.plan(1, 2, 1, 1, 23), 0);
    }

    private static void boundByOne() {
        PoolCoast x = tidal(0, 1);
        // 20, 30, 40
        int[] bounds = {0, 19, 20, 29, 30, 39, 40, 999};
        int[] costs = {30, 30, 20, 20, 10, 10, 0, 0};
        for (int i = 0; i < bounds.length; i++) {
            due("bound " + bounds[i], x.plan(1, 1, 3, 1, bounds[i]), costs[i]);
            due("none of it", x.planned(0), -1);
        }
        x.dirt(0, 0, 0);
        due("0 is not above 0", x.plan(1, 1, 6, 3, 0), 0);
    }

    private static void cleanedDays() {
        PoolCoast x = tidal(9, 1);
        due("0 on the day itself", x.plan(1, 1, 1, 1, 0), 1);
        due("that day", x.planned(0), 1);
        due("not needed", x.plan(1, 1, 1, 1, 20), 0);
        due("on none", x.planned(0), -1);
        // cleaned on day 1: 0, 10; on day 2: 20, 0
        due("a day of two", x.plan(1, 1, 2, 1, 0), 11);
        due("the earliest", x.planned(0), 1);
        due("0 and 10", x.plan(1, 1, 2, 1, 10), 1);
        due("the first day", x.planned(0), 1);
        due("20 and 0 or 0 and 10", x.plan(1, 1, 2, 1, 20), 1);
        due("the earliest again", x.planned(0), 1);
        x.free(0, 1, true);
        due("20 and 0", x.plan(1, 1, 2, 1, 20), 1);
        due("the second day", x.planned(0), 2);
        due("20 is above 19", x.plan(1, 1, 2, 1, 19), 11);
        due("the second day too", x.planned(0), 2);
        // 20, 30, 40, 50, 60, 70; cleaned on day 6 alone: 20 to 60, and 0
        for (int day = 1; day < 6; day++) {
            x.free(0, day, true);
        }
        due("the last of six", x.plan(1, 1, 6, 1, 60), 1);
        due("day 6", x.planned(0), 6);
        x.free(0, 6, true);
        due("on none of six", x.plan(1, 1, 6, 1, 60), 10);
        due("none", x.planned(0), -1);
    }

    /** Each pool alone may be cleaned on another of six days, and all at once. */
    private static void sixDaysFourPools() {
        PoolCoast x = tidal(9, 11);
        int[] days = {6, 5, 1, 4};
        for (int i = 0; i < 4; i++) {
            for (int day = 1; day <= 6; day++) {
                if (day != days[i]) {
                    x.free(7 + i, day, true);
                }
            }
        }
        int four = 1 << 7 | 1 << 8 | 1 << 9 | 1 << 10;
        due("four pools", x.plan(four, 1, 6, 1, 69), 4);
        for (int i = 0; i < 4; i++) {
            due("pool " + (7 + i), x.planned(7 + i), days[i]);
        }
        for (int p = -1; p < 7; p++) {
            due("pool " + p + " is not of it", x.planned(p), -1);
        }
        due("pool 11", x.planned(11), -1);
        due("none needed", x.plan(four, 1, 6, 1, 70), 0);
        for (int i = 0; i < 4; i++) {
            due("none of pool " + (7 + i), x.planned(7 + i), -1);
        }
    }

    private static void gangsByOne() {
        PoolCoast x = tidal(9, 4);
        int[] costs = {31, 22, 13};
        for (int gangs = 1; gangs <= 3; gangs++) {
            due("gangs " + gangs, x.plan(15, 1, 1, gangs, 0), costs[gangs - 1]);
            for (int p = 0; p < 4; p++) {
                due("pool " + p, x.planned(p), p < gangs ? 1 : -1);
            }
        }
        // two days, bound 20: day 1 leaves 20, day 2 has 30 without a cleaning
        due("one gang for two days", x.plan(15, 1, 2, 1, 20), 2 + 20);
        int[] first = {1, 2, -1, -1};
        for (int p = 0; p < 4; p++) {
            due("two days, pool " + p, x.planned(p), first[p]);
        }
        due("two gangs for two days", x.plan(15, 1, 2, 2, 20), 4);
        int[] second = {1, 1, 2, 2};
        for (int p = 0; p < 4; p++) {
            due("two gangs, pool " + p, x.planned(p), second[p]);
        }
    }

    /** Of plans that cost the same: the least number on the earliest day, then the next; none is behind all. */
    private static void firstOfTheLeast() {
        PoolCoast x = tidal(9, 2);
        // one gang, one day: either is as good
        due("one of two", x.plan(3, 1, 1, 1, 0), 11);
        due("pool 0", x.planned(0), 1);
        due("not pool 1", x.planned(1), -1);
        x.free(1, 1, true);
        due("each on its own day", x.plan(3, 1, 2, 1, 20), 2);
        due("pool 0 on the first", x.planned(0), 1);
        due("pool 1 on the second", x.planned(1), 2);
        x.free(1, 1, false);
        x.free(0, 1, true);
        due("the other way round", x.plan(3, 1, 2, 1, 20), 2);
        due("pool 0 on the second", x.planned(0), 2);
        due("pool 1 on the first", x.planned(1), 1);
        x.free(0, 1, false);
        x.dirt(0, 5, 0);
        // pool 0: 10 and 15, cleaned on day 2: 10 and 0; pool 1: 20 and 30, so the one gang has it on day 1
        due("the dirtier one first", x.plan(3, 1, 2, 1, 12), 2);
        due("pool 0 waits", x.planned(0), 2);
        due("pool 1 on day 1", x.planned(1), 1);
        // cleaning costs 1 and saves 10 or nothing
        x.dirt(0, 10, 0);
        x.dirt(1, 0, 0);
        due("pool 1 stays clean", x.plan(3, 1, 2, 1, 20), 1);
        due("none for pool 1", x.planned(1), -1);
    }

    /** A low tide comes on some days alone. */
    private static void daysAlone() {
        for (int only = 1; only <= 6; only++) {
            PoolCoast x = new PoolCoast();
            x.set(0, 0);
            x.pool(10, 0, 100, 100, 0, 0, 50);
            x.dirt(0, 1, 0);
            for (int day = 0; day < 9; day++) {
                x.turn(144 * day + 42, 100);
                x.turn(144 * day + 90, day == only ? 0 : 1);
            }
            // 2, 3, 4, 5, 6, 7 without
            due("cost, low tide on day " + only, x.plan(1, 1, 6, 1, 6), 1);
            due("low tide on day " + only, x.planned(0), only);
            due("behind that day", x.plan(1, only + 1, 3, 1, only + 3), 10);
            due("none", x.planned(0), -1);
        }
    }

    private static void plannedBefore() {
        PoolCoast x = tidal(9, 2);
        due("no plan", x.planned(0), -1);
        x.plan(1, 0, 1, 1, 0);
        due("a plan that was refused", x.planned(0), -1);
        x.plan(1, 1, 1, 1, 0);
        due("planned", x.planned(0), 1);
        x.plan(1, 1, 7, 1, 0);
        due("refused behind it", x.planned(0), 1);
        x.plan(2, 2, 1, 1, 0);
        due("not of the latest", x.planned(0), -1);
        due("of the latest", x.planned(1), 2);
        Coasts.passTo(x, 144 * 5);
        due("a day that is over", x.planned(1), 2);
        Coasts.passTo(x, 14400);
        due("at the end", x.planned(1), 2);
    }

    private static PoolCoast filling() {
        PoolCoast x = new PoolCoast();
        x.turn(0, -500);
        x.set(0, 50);
        x.pool(6, -30, 170, 100, 0, 0, 0);
        x.pump(0, 1);
        return x;
    }

    /** The depth at the end of hour h is h + 1. */
    private static void racesByDepth() {
        PoolCoast x = filling();
        due("just so deep", x.race(0, 0, 0, 1, 7, 7, 50), 6);
        due("from 7 to 8", x.race(0, 0, 0, 2, 7, 8, 50), 6);
        due("not three of 7 and 8", x.race(0, 0, 0, 3, 7, 8, 50), -2);
        due("six of 7 to 12", x.race(0, 0, 0, 6, 7, 12, 50), 6);
        due("not six of 7 to 11", x.race(0, 0, 0, 6, 7, 11, 50), -2);
        due("from 24 on", x.race(0, 0, 0, 1, 24, 1200, 50), 23);
        due("not from 25 on", x.race(0, 0, 0, 1, 25, 1200, 50), -2);
        due("up to 1", x.race(0, 0, 0, 1, 0, 1, 50), 0);
        due("not up to 0", x.race(0, 0, 0, 1, 0, 0, 50), -2);
        due("low above high", x.race(0, 0, 0, 1, 8, 7, 50), -2);
        due("9 days later", x.race(0, 9, 0, 1, 200, 200, 50), 0);
        due("8 days later", x.race(0, 8, 0, 1, 200, 200, 50), 7);
        PoolCoast empty = new PoolCoast();
        empty.pool(6, -30, 170, 100, 0, 0, 0);
        due("an empty pool", empty.race(0, 0, 0, 6, 0, 0, 100), 0);
    }

    private static void racesByWaves() {
        PoolCoast x = filling();
        due("WORST at v", x.race(0, 0, 0, 1, 0, 1200, 50), 0);
        due("WORST above v", x.race(0, 0, 0, 1, 0, 1200, 49), -2);
        x.wave(10, 49);
        x.wave(11, 49);
        due("a row", x.race(0, 0, 0, 1, 0, 1200, 49), 10);
        due("two rows", x.race(0, 0, 0, 2, 0, 1200, 49), 10);
        due("no three", x.race(0, 0, 0, 3, 0, 1200, 49), -2);
        x.wave(10, 50);
        due("the last row counts", x.race(0, 0, 0, 1, 0, 1200, 49), 11);
        x.wave(5, 51);
        due("all but hour 5", x.race(0, 0, 0, 6, 0, 1200, 50), 6);
        due("five ahead of it", x.race(0, 0, 0, 5, 0, 1200, 50), 0);
        x.wave(23, 0);
        due("the last hour", x.race(0, 0, 0, 1, 0, 1200, 0), 23);
        x.set(0, 0);
        due("v 0", x.race(0, 1, 0, 1, 0, 1200, 0), 0);
        x.set(0, 500);
        due("v 500", x.race(0, 1, 0, 1, 0, 1200, 500), 0);
    }

    private static void racesByHours() {
        PoolCoast x = filling();
        for (int hours = 1; hours <= 6; hours++) {
            due("the last that fits " + hours, x.race(0, 3, 24 - hours, hours, 0, 1200, 500), 24 - hours);
            due("over midnight " + hours, x.race(0, 3, Math.min(23, 25 - hours), hours, 0, 1200, 500),
                hours == 1 ? 23 : -2);
            due("from 0 on " + hours, x.race(0, 3, 0, hours, 0, 1200, 500), 0);
            due("from 9 on " + hours, x.race(0, 3, 9, hours, 0, 1200, 500), 9);
        }
    }

    private static void racesToday() {
        PoolCoast x = filling();
        Coasts.passTo(x, 59);
        due("now's hour in its last tick", x.race(0, 0, 0, 1, 0, 1200, 500), 9);
        x.pass(1);
        due("the next hour", x.race(0, 0, 0, 1, 0, 1200, 500), 10);
        due("from a later one on", x.race(0, 0, 11, 1, 0, 1200, 500), 11);
        x.pump(0, -1000);
        due("as it is foretold now", x.race(0, 0, 0, 1, 1, 1200, 500), -2);
        due("empty in now's hour", x.race(0, 0, 0, 1, 0, 0, 500), 10);
        Coasts.passTo(x, 143);
        due("the last hour of today", x.race(0, 0, 0, 1, 0, 1200, 500), 23);
        due("not two of them", x.race(0, 0, 0, 2, 0, 1200, 500), -2);
        x.pass(1);
        due("yesterday", x.race(0, 0, 0, 1, 0, 1200, 500), -1);
        Coasts.passTo(x, 14399);
        due("the last hour of all", x.race(0, 99, 0, 1, 0, 1200, 500), 23);
        x.pass(1);
        due("at the end", x.race(0, 99, 0, 1, 0, 1200, 500), -1);
    }
}
