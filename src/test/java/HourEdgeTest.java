import java.util.function.ObjIntConsumer;

/** The edges of hours and days in pools: DIRT, storms, what is KEPT and FORETOLD (promises 14 to 16). */
public final class HourEdgeTest {
    private static final Check CHECK = new Check();
    private static final int LEVEL = 0;
    private static final int AGE = 1;
    private static final int DIRT = 2;
    private static final int NOTHING = -1000;

    public static void main(String[] args) {
        dirtInTheLastTick();
        stormsOfTheDay();
        stormsByOne();
        stormsAsKnown();
        worstStorms();
        keptInTheLastTick();
        foretoldFar();
        foretoldAnew();
        foretoldStorms();
        nothingIsDoneByLooking();
        latePools();
        poolOfTheLastTick();
        passing();
        cleanedByDepth();
        CHECK.finish();
    }

    private static void due(String what, long got, long want) {
        CHECK.due(what, got, want);
    }

    /** A sea far below all, no waves, a pool of 10 by 100 half full. */
    private static PoolCoast quiet() {
        PoolCoast x = new PoolCoast();
        x.turn(0, -500);
        x.set(0, 0);
        x.pool(10, 0, 100, 100, 0, 0, 50);
        return x;
    }

    private static int dirt(PoolCoast x) {
        return x.about(0, 3);
    }

    private static void dirtInTheLastTick() {
        PoolCoast x = quiet();
        x.dirt(0, 20, 0);
        Coasts.passTo(x, 143);
        due("up to tick 143", dirt(x), 0);
        x.dirt(0, 7, 0);
        x.pass(1);
        due("SAND as it is in tick 143", dirt(x), 7);
        x.dirt(0, 0, 0);
        Coasts.passTo(x, 288);
        due("no SAND", dirt(x), 7);
        x.dirt(0, 20, 20);
        Coasts.passTo(x, 431);
        due("up to tick 431", dirt(x), 7);
        x.pass(1);
        due("20 more", dirt(x), 27);
    }

    /** A storm in the first and in the last hour of a day is one of it, in the hours beside it is not. */
    private static void stormsOfTheDay() {
        int[] hours = {23, 24, 25, 46, 47, 48};
        for (int hour : hours) {
            PoolCoast x = quiet();
            x.dirt(0, 1, 10);
            x.wave(hour, 150);
            Coasts.passTo(x, 144);
            int first = hour < 24 ? 11 : 1;
            due("day 0, storm in " + hour, dirt(x), first);
            Coasts.passTo(x, 288);
            int second = hour >= 24 && hour <= 47 ? 11 : 1;
            due("day 1, storm in " + hour, dirt(x), first + second);
        }
    }

    private static void stormsByOne() {
        int[][] stormAndWave = {{150, 149, 0}, {150, 150, 1}, {150, 151, 1}, {500, 499, 0}, {500, 500, 1}, {1, 0, 0},
            {1, 1, 1}, {0, 0, 1}};
        for (int[] each : stormAndWave) {
            PoolCoast x = quiet();
            x.dirt(0, 0, 5);
            x.set(1, each[0]);
            x.wave(9, each[1]);
            Coasts.passTo(x, 144);
            due("STORM " + each[0] + ", WAVE " + each[1], dirt(x), 5 * each[2]);
        }
        PoolCoast late = quiet();
        late.dirt(0, 0, 5);
        late.wave(9, 100);
        Coasts.passTo(late, 143);
        late.set(1, 100);
        late.pass(1);
        due("STORM as it is in the last tick", dirt(late), 5);
    }

    private static void stormsAsKnown() {
        PoolCoast x = quiet();
        x.dirt(0, 0, 5);
        x.wave(9, 300);
        Coasts.passTo(x, 143);
        x.wave(9, 0);
        x.pass(1);
        due("a storm taken back in the last tick", dirt(x), 0);
        x.wave(30, 0);
        Coasts.passTo(x, 287);
        x.wave(30, 300);
        x.pass(1);
        due("a storm told in the last tick", dirt(x), 5);
        x.wave(30, 0);
        x.wave(5, 400);
        Coasts.passTo(x, 432);
        due("told behind the day", dirt(x), 5);
    }

    /** Rows take the place of WORST; of a day that has none in some hour WORST is a WAVE. */
    private static void worstStorms() {
        for (int without = -1; without < 24; without += 12) {
            PoolCoast x = quiet();
            x.dirt(0, 0, 5);
            x.set(0, 150);
            for (int hour = 0; hour < 24; hour++) {
                if (hour != without) {
                    x.wave(hour, 149);
                }
            }
            Coasts.passTo(x, 144);
            due("hour " + without + " has no row", dirt(x), without < 0 ? 0 : 5);
        }
        PoolCoast y = quiet();
        y.dirt(0, 0, 5);
        y.set(0, 149);
        Coasts.passTo(y, 144);
        due("WORST is not a STORM", dirt(y), 0);
    }

    private static void keptInTheLastTick() {
        PoolCoast x = quiet();
        x.pump(0, 10);
        x.pass(5);
        due("up to tick 5", x.about(0, 0), 55);
        x.pump(0, 20);
        x.pass(1);
        due("kept behind tick 5", x.hour(0, 0, LEVEL), 57);
        x.pump(0, -20);
        x.pass(1);
        due("now", x.about(0, 0), 55);
        due("kept still", x.hour(0, 0, LEVEL), 57);
        due("foretold for now's hour", x.hour(0, 1, LEVEL), 45);
        x.pump(0, 0);
        Coasts.passTo(x, 11);
        due("foretold a tick ahead", x.hour(0, 1, AGE), 1);
        due("kept age", x.hour(0, 0, AGE), 0);
        x.clean(0);
        x.dirt(0, 9, 0);
        Coasts.passTo(x, 145);
        due("kept dirt of the last hour", x.hour(0, 23, DIRT), 9);
        due("kept dirt ahead of it", x.hour(0, 22, DIRT), 0);
    }

    private static void foretoldFar() {
        int[] ticks = {0, 5, 6, 144, 12959, 12960, 12966, 14399, 14400};
        for (int tick : ticks) {
            PoolCoast x = Coasts.passTo(quiet(), tick);
            int last = Math.min(2399, tick / 6 + 240);
            due("the last hour at tick " + tick, x.hour(0, last, LEVEL), 50);
            due("its age", x.hour(0, last, AGE), last + 1);
            due("behind it at tick " + tick, x.hour(0, last + 1, LEVEL), NOTHING);
            due("behind it, age", x.hour(0, last + 1, AGE), NOTHING);
            due("behind it, dirt", x.hour(0, last + 1, DIRT), NOTHING);
            due("the first hour", x.hour(0, 0, AGE), 1);
            due("ahead of it", x.hour(0, -1, AGE), NOTHING);
        }
    }

    private static void anew(String what, ObjIntConsumer<PoolCoast> act, int part, int before, int behind) {
        PoolCoast x = quiet();
        x.dirt(0, 3, 5);
        x.crack(0, 40, 1);
        x.pass(144);
        due("foretold ahead of " + what, x.hour(0, 50, part), before);
        act.accept(x, 0);
        due("foretold behind " + what, x.hour(0, 50, part), behind);
        Coasts.passTo(x, 51 * 6);
        due("kept behind " + what, x.hour(0, 50, part), behind);
    }

    /** All that is done, told or set alters what was foretold ahead of it; the crack leaves 409 units of 10. */
    private static void foretoldAnew() {
        anew("nothing", (x, p) -> due("now", x.count(0), 144), LEVEL, 40, 40);
        anew("mend and pump", (x, p) -> {
            x.mend(p);
            x.pump(p, 1);
        }, LEVEL, 40, 57);
        anew("pump", (x, p) -> x.pump(p, 7), LEVEL, 40, 47);
        anew("crack", (x, p) -> x.crack(p, 20, 1), LEVEL, 40, 20);
        anew("turn", (x, p) -> x.turn(100, 70), LEVEL, 40, 70);
        anew("turn above the wall", (x, p) -> x.turn(100, 150), LEVEL, 40, 150);
        anew("turn and sluice", (x, p) -> {
            x.pool(10, 0, 100, 70, 100, 0, 90);
            x.sluice(1, true);
            due("the new pool's", x.hour(1, 50, LEVEL), 70);
            x.sluice(1, false);
            due("the new pool's, shut", x.hour(1, 50, LEVEL), 90);
        }, LEVEL, 40, 40);
        anew("dirt", (x, p) -> x.dirt(p, 4, 5), DIRT, 6, 7);
        anew("set STORM", (x, p) -> x.set(1, 0), DIRT, 6, 11);
        anew("set WORST", (x, p) -> x.set(0, 150), DIRT, 6, 11);
        anew("set n", (x, p) -> x.set(2, 3), DIRT, 6, 6);
        anew("wave", (x, p) -> x.wave(47, 150), DIRT, 6, 11);
        anew("clean that is refused", (x, p) -> x.clean(p), DIRT, 6, 6);
        PoolCoast y = quiet();
        y.pool(10, 0, 100, 100, 0, 0, 5);
        y.dirt(1, 3, 5);
        y.pass(144);
        due("foretold ahead of clean", y.hour(1, 50, DIRT), 6);
        due("clean", y.clean(1), 3);
        due("foretold behind clean", y.hour(1, 50, DIRT), 3);
        PoolCoast z = quiet();
        z.pump(0, 1);
        due("foretold ahead of mend", z.hour(0, 9, LEVEL), 56);
        z.crack(0, 50, 1);
        due("foretold behind crack", z.hour(0, 9, LEVEL), 51);
        z.mend(0);
        due("foretold behind mend", z.hour(0, 9, LEVEL), 56);
        z.pass(3);
        due("foretold behind pass", z.hour(0, 9, LEVEL), 56);
    }

    private static void foretoldStorms() {
        PoolCoast x = quiet();
        x.dirt(0, 1, 10);
        x.wave(100, 200);
        x.pass(30);
        x.wave(30, 200);
        int[] dirts = {1, 12, 13, 14, 25, 26, 27, 28, 29, 30};
        for (int day = 0; day < 10; day++) {
            due("foretold for day " + day, x.hour(0, day * 24 + 23, DIRT), dirts[day]);
            due("foretold ahead of its last hour", x.hour(0, day * 24 + 22, DIRT), day == 0 ? 0 : dirts[day - 1]);
        }
        for (int day = 0; day < 10; day++) {
            Coasts.passTo(x, 144 * day + 144);
            due("kept for day " + day, x.hour(0, day * 24 + 23, DIRT), dirts[day]);
        }
    }

    /** What is foretold changes neither what is now nor what is kept. */
    private static void nothingIsDoneByLooking() {
        PoolCoast x = quiet();
        x.pump(0, 1);
        x.dirt(0, 2, 2);
        x.pass(9);
        int[] before = new int[8];
        for (int what = 0; what < 8; what++) {
            before[what] = x.about(0, what);
        }
        int kept = x.hour(0, 0, LEVEL);
        due("foretold", x.hour(0, 241, LEVEL), 100);
        for (int what = 0; what < 8; what++) {
            due("about " + what, x.about(0, what), before[what]);
        }
        due("kept", x.hour(0, 0, LEVEL), kept);
        due("an hour nearer than the one ahead", x.hour(0, 1, LEVEL), 51);
        due("now", x.count(0), 9);
    }

    /** The hour in which a pool came is told of it, the one ahead is not. */
    private static void latePools() {
        for (int tick : new int[] {5, 6, 7, 11, 12}) {
            PoolCoast x = Coasts.passTo(quiet(), tick);
            x.pool(10, 0, 100, 100, 0, 0, 20);
            int came = tick / 6;
            due("ahead of it at " + tick, x.hour(1, came - 1, LEVEL), NOTHING);
            due("foretold at " + tick, x.hour(1, came, LEVEL), 20);
            x.pass(6);
            due("kept at " + tick, x.hour(1, came, LEVEL), 20);
            due("still ahead of it", x.hour(1, came - 1, DIRT), NOTHING);
            due("its first hour's age", x.hour(1, came, AGE), tick % 6 == 0 ? 1 : 0);
            due("its next hour's age", x.hour(1, came + 1, AGE), tick % 6 == 0 ? 2 : 1);
        }
    }

    private static void poolOfTheLastTick() {
        PoolCoast x = Coasts.passTo(quiet(), 14399);
        due("pool", x.pool(10, 0, 100, 100, 0, 0, 20), 1);
        x.dirt(1, 3, 0);
        due("foretold", x.hour(1, 2399, DIRT), 3);
        due("ahead of it", x.hour(1, 2398, DIRT), NOTHING);
        due("the last tick", x.pass(1), 14400);
        due("kept", x.hour(1, 2399, DIRT), 3);
        due("no hour 2400", x.hour(1, 2400, DIRT), NOTHING);
        due("dirt", x.about(1, 3), 3);
    }

    private static void passing() {
        PoolCoast x = new PoolCoast();
        due("without pools", x.pass(288), 288);
        Coasts.passTo(x, 14300);
        due("101 beyond", x.pass(101), -1);
        due("100 to the end", x.pass(100), 14400);
        due("0 at the end", x.pass(0), -1);
        due("-1 at the end", x.pass(-1), -1);
        due("now", x.count(0), 14400);
    }

    /** The depth is LEVEL less FLOOR, so 5 and what is less than a centimetre more may be cleaned. */
    private static void cleanedByDepth() {
        PoolCoast x = new PoolCoast();
        x.turn(0, -500);
        x.set(0, 0);
        x.pool(10, 300, 400, 400, 0, 0, 6);
        x.pool(10, -300, 400, 400, 0, 0, 6);
        for (int p = 0; p < 2; p++) {
            x.dirt(p, 2, 0);
        }
        x.pass(144);
        for (int p = 0; p < 2; p++) {
            due("60 units of 10", x.clean(p), -1);
            x.pump(p, -1);
        }
        x.pass(1);
        for (int p = 0; p < 2; p++) {
            due("59 units of 10", x.clean(p), 2);
            due("cleaned", x.about(p, 3), 0);
            due("cleaned again", x.clean(p), 0);
            x.pump(p, 1);
        }
        x.pass(1);
        for (int p = 0; p < 2; p++) {
            due("60 units again", x.clean(p), -1);
        }
    }
}
