/** The edges that the terms name for pools and what a tick does to them (promises 7 to 16). */
public final class PoolEdgeTest {
    private static final Check CHECK = new Check();
    private static final int LEVEL = 0;
    private static final int WATER = 1;
    private static final int AGE = 2;
    private static final int DIRT = 3;
    private static final int PUMPED = 6;

    public static void main(String[] args) {
        fullOfPools();
        fullAndEmptyPools();
        levelsDownwards();
        sluiceAtItsSill();
        sluiceUpToTheSea();
        sluiceDownToTheSea();
        crackAtItsLevel();
        cracksToTheSea();
        crackAboveTheSea();
        fourCracks();
        overTheWallByOne();
        underTheSeaByOne();
        pumpsByOne();
        pumpedEmpty();
        stepsInOrder();
        nothingOldUnderTheSea();
        oldDownwards();
        CHECK.finish();
    }

    private static void due(String what, long got, long want) {
        CHECK.due(what, got, want);
    }

    private static void due(String what, boolean got, boolean want) {
        CHECK.due(what, got, want);
    }

    /** A coast whose sea stands at a level, without waves. */
    private static PoolCoast stillSea(int level) {
        PoolCoast x = new PoolCoast();
        x.turn(0, level);
        x.set(0, 0);
        return x;
    }

    private static long waterAfterOneTick(PoolCoast x) {
        x.pass(1);
        return x.about(0, WATER);
    }

    private static void fullOfPools() {
        PoolCoast x = new PoolCoast();
        for (int i = 0; i < 10; i++) {
            x.pool(1 + i, 0, 100, 50, 0, 0, i);
        }
        due("the 11th with too much", x.pool(11, 0, 100, 50, 0, 0, 101), -1);
        due("ten", x.count(3), 10);
        due("pool 10 is not there yet", x.about(10, WATER), -1000);
        due("the 11th", x.pool(11, 0, 100, 50, 0, 0, 100), 10);
        due("its water", x.about(10, WATER), 1100);
        due("the 12th", x.pool(12, 0, 100, 50, 0, 0, 7), -1);
        due("pool 11 is not there", x.about(11, WATER), -1000);
        due("the water of pool 10", x.about(10, WATER), 1100);
    }

    private static void fullAndEmptyPools() {
        PoolCoast x = stillSea(-500);
        due("as deep as the wall", x.pool(10, -300, 900, 900, 0, 0, 1200), 0);
        due("empty", x.pool(10, -300, 900, 900, 0, 0, 0), 1);
        due("full, a centimetre", x.pool(1, 800, 801, 801, 0, 0, 1), 2);
        x.pass(12);
        due("the full one's level", x.about(0, LEVEL), 900);
        due("the full one's age", x.about(0, AGE), 2);
        due("the empty one's level", x.about(1, LEVEL), -300);
        due("the empty one's age", x.about(1, AGE), 0);
        due("the small one's water", x.about(2, WATER), 1);
        due("the small one's level", x.about(2, LEVEL), 801);
        due("the small one's age", x.about(2, AGE), 2);
        due("clean the empty one", x.clean(1), 0);
        due("clean the full one", x.clean(0), -1);
    }

    private static void levelsDownwards() {
        PoolCoast x = stillSea(-500);
        x.pool(10, -20, 100, 100, 0, 0, 2);
        x.pump(0, -1);
        due("19 units of 10", waterAfterOneTick(x), 19);
        due("a level below 0", x.about(0, LEVEL), -19);
        x.pass(8);
        due("11 units", x.about(0, LEVEL), -19);
        x.pass(2);
        due("9 units", x.about(0, LEVEL), -20);
        due("kept in hour 0", x.hour(0, 0, 0), -19);
    }

    /** Neither the level nor the sea at the sill is above it; either is by a centimetre. */
    private static void sluiceAtItsSill() {
        // sea, depth, water behind one tick; the sill is at 50, 4 units a centimetre, an area of 10
        int[][] cases = {{20, 50, 500}, {20, 51, 506}, {50, 51, 506}, {51, 51, 510}, {51, 52, 516}, {50, 30, 300},
            {51, 30, 384}, {50, 50, 500}, {51, 50, 504}, {-500, 0, 0}, {49, 0, 0}};
        for (int[] each : cases) {
            PoolCoast x = stillSea(each[0]);
            x.pool(10, 0, 100, 50, 4, 0, each[1]);
            x.sluice(0, true);
            due("sea " + each[0] + " depth " + each[1], waterAfterOneTick(x), each[2]);
        }
    }

    private static void sluiceUpToTheSea() {
        // an area of 3 from -40 on: 3 * 50 units at the sea's 10, whatever 100 * (S - L) would let in
        PoolCoast x = stillSea(10);
        x.pool(3, -40, 100, -40, 100, 0, 0);
        x.sluice(0, true);
        due("up to the sea", waterAfterOneTick(x), 150);
        PoolCoast y = stillSea(60);
        y.pool(3, 40, 100, 40, 100, 0, 0);
        y.sluice(0, true);
        due("up to the sea from a high floor", waterAfterOneTick(y), 60);
        PoolCoast z = stillSea(60);
        z.pool(100, 40, 100, 40, 1, 0, 19);
        z.sluice(0, true);
        due("one unit", waterAfterOneTick(z), 1901);
        PoolCoast shut = stillSea(60);
        shut.pool(100, 40, 100, 40, 0, 0, 19);
        shut.sluice(0, true);
        due("a sluice of 0", waterAfterOneTick(shut), 1900);
    }

    private static void sluiceDownToTheSea() {
        PoolCoast x = stillSea(-10);
        x.pool(3, -40, 100, -30, 100, 0, 60);
        x.sluice(0, true);
        due("down to the sea", waterAfterOneTick(x), 90);
        PoolCoast y = stillSea(-60);
        y.pool(3, -40, 100, -30, 100, 0, 60);
        y.sluice(0, true);
        due("down to the sill", waterAfterOneTick(y), 30);
        PoolCoast z = stillSea(-60);
        z.pool(3, -40, 100, -40, 100, 0, 60);
        z.sluice(0, true);
        due("down to the floor", waterAfterOneTick(z), 0);
        due("nothing old", z.about(0, AGE), 0);
    }

    private static void crackAtItsLevel() {
        // sea, depth, water behind one tick; the crack is at 50, a rate of 4, an area of 10
        int[][] cases = {{20, 50, 500}, {20, 51, 506}, {50, 51, 506}, {51, 51, 510}, {51, 52, 516}, {50, 30, 300},
            {51, 30, 304}, {50, 50, 500}, {51, 50, 504}, {60, 55, 570}, {60, 30, 340}, {-500, 0, 0}};
        for (int[] each : cases) {
            PoolCoast x = stillSea(each[0]);
            x.pool(10, 0, 100, 50, 4, 0, each[1]);
            x.crack(0, 50, 4);
            due("sea " + each[0] + " depth " + each[1], waterAfterOneTick(x), each[2]);
        }
    }

    private static void cracksToTheSea() {
        PoolCoast x = stillSea(-10);
        x.pool(3, -40, 100, -30, 0, 0, 60);
        x.crack(0, -35, 50);
        due("out down to the sea", waterAfterOneTick(x), 90);
        PoolCoast y = stillSea(10);
        y.pool(3, -40, 100, -40, 0, 0, 0);
        y.crack(0, -40, 50);
        due("in up to the sea", waterAfterOneTick(y), 150);
        PoolCoast z = stillSea(60);
        z.pool(3, 40, 100, 40, 0, 0, 10);
        z.crack(0, 40, 50);
        due("in up to the sea from a high floor", waterAfterOneTick(z), 60);
        PoolCoast v = stillSea(45);
        v.pool(3, 40, 100, 40, 0, 0, 60);
        v.crack(0, 100, 50);
        due("a crack at the wall, the level at it", waterAfterOneTick(v), 180);
    }

    private static void crackAboveTheSea() {
        PoolCoast x = stillSea(-500);
        x.pool(3, -40, 100, -30, 0, 0, 60);
        x.crack(0, -35, 50);
        due("no further than the crack", waterAfterOneTick(x), 15);
        x.crack(0, -40, 50);
        due("no further than the floor", waterAfterOneTick(x), 0);
        PoolCoast y = stillSea(-500);
        y.pool(10, 40, 100, 40, 0, 0, 30);
        y.crack(0, 40, 2);
        due("2 * 30", waterAfterOneTick(y), 240);
    }

    /** Each crack begins with the level that the one ahead left. */
    private static void fourCracks() {
        PoolCoast x = stillSea(-500);
        x.pool(10, 0, 100, 100, 0, 0, 100);
        for (int i = 0; i < 4; i++) {
            due("crack", x.crack(0, 10 * i, i + 1), i + 1);
        }
        due("a fifth", x.crack(0, 0, 50), -1);
        // 100; then 2 * (90 - 10); then 3 * (74 - 20); then 4 * (57 - 30)
        due("by numbers", waterAfterOneTick(x), 1000 - 100 - 160 - 162 - 108);
        due("mended", x.mend(0), 4);
        due("no cracks", waterAfterOneTick(x), 470);
        due("a first again", x.crack(0, 0, 50), 1);
        due("only that one", waterAfterOneTick(x), 0);
    }

    private static void overTheWallByOne() {
        // wave, water behind one tick; sea 60, wall 100, 7 units a centimetre
        int[][] cases = {{0, 300}, {39, 300}, {40, 300}, {41, 307}, {42, 314}, {200, 1000}};
        for (int[] each : cases) {
            PoolCoast x = stillSea(60);
            x.pool(10, 0, 100, 100, 0, 7, 30);
            x.wave(0, each[0]);
            due("wave " + each[0], waterAfterOneTick(x), each[1]);
            PoolCoast y = stillSea(60);
            y.pool(10, 0, 100, 100, 0, 0, 30);
            y.wave(0, each[0]);
            due("wave " + each[0] + " and nothing comes over", waterAfterOneTick(y), 300);
        }
        PoolCoast one = stillSea(60);
        one.pool(10, 0, 100, 100, 0, 1, 30);
        one.wave(0, 41);
        due("one unit", waterAfterOneTick(one), 301);
    }

    private static void underTheSeaByOne() {
        for (int sea = 98; sea <= 102; sea++) {
            PoolCoast x = stillSea(sea);
            x.pool(10, -20, 100, 100, 0, 0, 30);
            x.pass(18);
            due("water at sea " + sea, x.about(0, WATER), sea > 100 ? 10 * (sea + 20) : 300);
            due("age at sea " + sea, x.about(0, AGE), sea > 100 ? 0 : 3);
        }
    }

    private static void pumpsByOne() {
        PoolCoast x = stillSea(-500);
        x.pool(10, 0, 100, 100, 0, 0, 50);
        due("none yet", x.pump(0, 1), 0);
        due("one in", waterAfterOneTick(x), 501);
        due("pumped", x.about(0, PUMPED), 1);
        due("it was 1", x.pump(0, -1), 1);
        due("one out", waterAfterOneTick(x), 500);
        due("pumped each way", x.about(0, PUMPED), 2);
        due("it was -1", x.pump(0, 0), -1);
        due("nothing", waterAfterOneTick(x), 500);
        due("nothing pumped", x.about(0, PUMPED), 2);
        x.pump(0, 500);
        due("up to the wall", waterAfterOneTick(x), 1000);
        due("no further", waterAfterOneTick(x), 1000);
        due("pumped to no end", x.about(0, PUMPED), 1002);
    }

    private static void pumpedEmpty() {
        PoolCoast x = stillSea(-500);
        x.pool(10, 0, 100, 100, 0, 0, 50);
        x.pass(12);
        x.pump(0, -500);
        due("just empty", waterAfterOneTick(x), 0);
        due("pumped", x.about(0, PUMPED), 500);
        due("no age", x.about(0, AGE), 0);
        due("nothing to pump", waterAfterOneTick(x), 0);
        due("pumped still", x.about(0, PUMPED), 500);
        x.pump(0, 1);
        due("one unit", waterAfterOneTick(x), 1);
        x.pump(0, 0);
        x.pass(5);
        due("5 ticks old", x.about(0, AGE), 0);
        x.pass(1);
        due("6 ticks old", x.about(0, AGE), 1);
        x.pump(0, -1);
        due("the last unit", waterAfterOneTick(x), 0);
        due("pumped in and out", x.about(0, PUMPED), 502);
    }

    /** Sluice, cracks, over the wall, pump, what is above the wall: each begins with what the one ahead left. */
    private static void stepsInOrder() {
        PoolCoast x = stillSea(60);
        x.pool(10, 0, 100, 20, 5, 2, 90);
        x.sluice(0, true);
        x.crack(0, 40, 3);
        x.wave(0, 71);
        x.pump(0, 40);
        // sluice: 5 * 30 out; crack: 3 * (75 - 60) out; over the wall: 2 * 31 in; pump: 40 in
        due("all of them", waterAfterOneTick(x), 900 - 150 - 45 + 62 + 40);
        PoolCoast y = stillSea(60);
        y.pool(10, 0, 100, 100, 0, 50, 10);
        y.wave(0, 60);
        y.pump(0, -1000);
        // 50 * 20 in, 1000 out; the pump first would find 100 alone
        due("over the wall ahead of the pump", waterAfterOneTick(y), 100);
        PoolCoast z = stillSea(-500);
        z.pool(10, 0, 100, 100, 0, 0, 100);
        z.crack(0, 100, 50);
        z.pump(0, 300);
        due("the pump behind the crack, the wall behind the pump", waterAfterOneTick(z), 1000);
    }

    /** Where the sea goes over the wall nothing stays old, not even by the tick that goes by. */
    private static void nothingOldUnderTheSea() {
        PoolCoast x = new PoolCoast();
        x.set(0, 0);
        x.turn(0, 2);
        x.turn(6, 1);
        x.pool(1, 0, 1, 1, 0, 0, 1);
        x.pass(6);
        due("as the sea", x.about(0, WATER), 2);
        // tick 6: OLD 2, and half of both goes; ticks 7 to 10: OLD 5
        x.pass(5);
        due("one unit", x.about(0, WATER), 1);
        due("5 ticks old", x.about(0, AGE), 0);
        x.pass(1);
        due("6 ticks old", x.about(0, AGE), 1);
    }

    private static void oldDownwards() {
        PoolCoast x = stillSea(-500);
        x.pool(1, 0, 10, 10, 0, 0, 3);
        x.pass(2);
        x.pump(0, -2);
        // OLD 6 and 3, less 9 * 2 by 3
        due("one unit", waterAfterOneTick(x), 1);
        x.pump(0, 1);
        // OLD 3 and 1, WATER 2; then OLD 6, WATER 3; then OLD 9 less 9 * 1 by 3, WATER 2
        x.pass(2);
        x.pump(0, -1);
        x.pass(1);
        due("two units", x.about(0, WATER), 2);
        x.pump(0, 0);
        // OLD 6 and 2 a tick: 10, 12 by 2
        x.pass(2);
        due("10 by 2", x.about(0, AGE), 0);
        x.pass(1);
        due("12 by 2", x.about(0, AGE), 1);
        PoolCoast y = stillSea(-500);
        y.pool(1, 0, 10, 10, 0, 0, 1);
        y.pump(0, 1);
        y.pass(1);
        y.pump(0, -1);
        // OLD 1 and 2 of two units, less 3 * 1 by 2, which is 1 and a half: 2
        y.pass(1);
        y.pump(0, 0);
        y.pass(3);
        due("OLD 5", y.about(0, AGE), 0);
        y.pass(1);
        due("OLD 6", y.about(0, AGE), 1);
    }
}
