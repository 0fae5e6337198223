/** Promises 7 to 16: pool, dirt, crack, mend, sluice, pump, clean, pass, about, hour. */
public final class PoolTest {
    private static final Check CHECK = new Check();
    private static final int LEVEL = 0;
    private static final int WATER = 1;
    private static final int AGE = 2;
    private static final int DIRT = 3;
    private static final int SLUICE = 4;
    private static final int CRACKS = 5;
    private static final int PUMPED = 6;
    private static final int AREA = 7;

    public static void main(String[] args) {
        poolsAndTheirLimits();
        wrongPools();
        settings();
        cracks();
        sluiceIn();
        sluiceOut();
        cracksInAndOut();
        overTheWall();
        underTheSea();
        floorsBelowZero();
        pumps();
        ages();
        dirtAndStorms();
        cleaning();
        passing();
        keptAndForetold();
        latePool();
        CHECK.finish();
    }

    private static void due(String what, long got, long want) {
        CHECK.due(what, got, want);
    }

    private static void due(String what, boolean got, boolean want) {
        CHECK.due(what, got, want);
    }

    /** A coast whose sea stands at a level, without waves. */
    private static PoolCoast stillSea(int level) {
        PoolCoast x = new PoolCoast();
        x.turn(0, level);
        x.set(0, 0);
        return x;
    }

    private static void poolsAndTheirLimits() {
        PoolCoast x = new PoolCoast();
        due("area 0", x.pool(0, 0, 10, 0, 0, 0, 0), -1);
        due("area 2001", x.pool(2001, 0, 10, 0, 0, 0, 0), -1);
        due("floor -301", x.pool(1, -301, 10, 0, 0, 0, 0), -1);
        due("floor 801", x.pool(1, 801, 900, 850, 0, 0, 0), -1);
        due("wall at floor", x.pool(1, 10, 10, 10, 0, 0, 0), -1);
        due("wall 901", x.pool(1, 0, 901, 0, 0, 0, 0), -1);
        due("sill below floor", x.pool(1, 0, 10, -1, 0, 0, 0), -1);
        due("sill above wall", x.pool(1, 0, 10, 11, 0, 0, 0), -1);
        due("sluice -1", x.pool(1, 0, 10, 0, -1, 0, 0), -1);
        due("sluice 101", x.pool(1, 0, 10, 0, 101, 0, 0), -1);
        due("over -1", x.pool(1, 0, 10, 0, 0, -1, 0), -1);
        due("over 101", x.pool(1, 0, 10, 0, 0, 101, 0), -1);
        due("depth -1", x.pool(1, 0, 10, 0, 0, 0, -1), -1);
        due("depth above wall", x.pool(1, 0, 10, 0, 0, 0, 11), -1);
        due("none yet", x.count(3), 0);
        due("widest", x.pool(2000, -300, 900, 900, 100, 100, 1200), 0);
        due("least", x.pool(1, 800, 801, 800, 0, 0, 0), 1);
        for (int i = 2; i <= 10; i++) {
            due("pool " + i, x.pool(7, 0, 10, 5, 3, 2, 4), i);
        }
        due("twelfth", x.pool(7, 0, 10, 5, 3, 2, 4), -1);
        due("count", x.count(3), 11);
        due("water", x.about(0, WATER), 2400000);
        due("level", x.about(0, LEVEL), 900);
        due("level of 2", x.about(2, LEVEL), 4);
        due("area", x.about(2, AREA), 7);
        due("age", x.about(2, AGE), 0);
        due("dirt", x.about(2, DIRT), 0);
        due("sluice", x.about(2, SLUICE), 0);
        due("cracks", x.about(2, CRACKS), 0);
        due("pumped", x.about(2, PUMPED), 0);
        due("what 8", x.about(2, 8), -1000);
        due("what -1", x.about(2, -1), -1000);
    }

    private static void wrongPools() {
        PoolCoast x = new PoolCoast();
        x.pool(7, 0, 10, 5, 3, 2, 4);
        for (int p : new int[] {-1, 1, 10, 11, Integer.MAX_VALUE, Integer.MIN_VALUE}) {
            due("dirt", x.dirt(p, 1, 1), false);
            due("crack", x.crack(p, 1, 1), -1);
            due("mend", x.mend(p), -1);
            due("sluice", x.sluice(p, true), false);
            due("pump", x.pump(p, 1), -2000);
            due("clean", x.clean(p), -1);
            due("about", x.about(p, 0), -1000);
            due("hour", x.hour(p, 0, 0), -1000);
        }
    }

    private static void settings() {
        PoolCoast x = new PoolCoast();
        x.pool(7, 0, 10, 5, 3, 2, 4);
        due("sand -1", x.dirt(0, -1, 0), false);
        due("sand 21", x.dirt(0, 21, 0), false);
        due("weed -1", x.dirt(0, 0, -1), false);
        due("weed 21", x.dirt(0, 0, 21), false);
        due("both", x.dirt(0, 20, 20), true);
        due("the same again", x.dirt(0, 20, 20), true);
        due("shut", x.sluice(0, false), false);
        due("open", x.sluice(0, true), true);
        due("open again", x.sluice(0, true), false);
        due("is open", x.about(0, SLUICE), 1);
        due("shut again", x.sluice(0, false), true);
        due("pump 1001", x.pump(0, 1001), -2000);
        due("pump -1001", x.pump(0, -1001), -2000);
        due("pump 1000", x.pump(0, 1000), 0);
        due("pump -1000", x.pump(0, -1000), 1000);
        due("pump 0", x.pump(0, 0), -1000);
    }

    private static void cracks() {
        PoolCoast x = new PoolCoast();
        x.pool(7, 100, 200, 150, 3, 2, 4);
        due("below the floor", x.crack(0, 99, 1), -1);
        due("above the wall", x.crack(0, 201, 1), -1);
        due("rate 0", x.crack(0, 100, 0), -1);
        due("rate 51", x.crack(0, 100, 51), -1);
        due("first", x.crack(0, 100, 1), 1);
        due("second", x.crack(0, 200, 50), 2);
        due("third", x.crack(0, 150, 50), 3);
        due("fourth", x.crack(0, 150, 50), 4);
        due("fifth", x.crack(0, 150, 50), -1);
        due("there are", x.about(0, CRACKS), 4);
        due("mended", x.mend(0), 4);
        due("none", x.mend(0), 0);
        due("there are none", x.about(0, CRACKS), 0);
        due("new", x.crack(0, 150, 50), 1);
    }

    private static void sluiceIn() {
        PoolCoast x = stillSea(60);
        // level 40; sill 50: 7 * 20 of 100 come in; then 7 * (60 - 41)
        x.pool(100, 0, 100, 50, 7, 0, 40);
        x.pass(1);
        due("shut", x.about(0, WATER), 4000);
        x.sluice(0, true);
        x.pass(1);
        due("in", x.about(0, WATER), 4140);
        x.pass(1);
        due("in from level 41", x.about(0, WATER), 4140 + 7 * 19);
        x.pass(288);
        due("up to the sea", x.about(0, WATER), 6000);
        PoolCoast y = stillSea(50);
        y.pool(100, 0, 100, 50, 7, 0, 40);
        y.sluice(0, true);
        y.pass(10);
        due("sea at the sill", y.about(0, WATER), 4000);
        PoolCoast z = stillSea(60);
        z.pool(10, 0, 100, 50, 100, 0, 59);
        z.sluice(0, true);
        z.pump(0, 5);
        z.pass(1);
        due("at most up to the sea, the pump behind it", z.about(0, WATER), 605);
    }

    private static void sluiceOut() {
        PoolCoast x = stillSea(20);
        x.pool(100, 0, 100, 50, 7, 0, 80);
        x.sluice(0, true);
        x.pass(1);
        due("down to the sill", x.about(0, WATER), 8000 - 7 * 30);
        x.pass(288);
        due("at the sill", x.about(0, LEVEL), 50);
        PoolCoast y = stillSea(70);
        y.pool(100, 0, 100, 50, 50, 0, 71);
        y.sluice(0, true);
        y.pass(1);
        due("down to the sea", y.about(0, WATER), 7050);
        PoolCoast z = stillSea(70);
        z.pool(10, 0, 100, 50, 50, 0, 71);
        z.sluice(0, true);
        z.pass(1);
        due("no further than the sea", z.about(0, WATER), 700);
    }

    private static void cracksInAndOut() {
        PoolCoast x = stillSea(20);
        x.pool(10, 0, 100, 100, 7, 0, 80);
        x.crack(0, 50, 3);
        x.crack(0, 10, 2);
        // 3 * (80 - 50), level 71, 2 * (71 - 20)
        x.pass(1);
        due("two cracks by numbers", x.about(0, WATER), 800 - 90 - 102);
        PoolCoast y = stillSea(60);
        y.pool(10, 0, 100, 100, 7, 0, 30);
        y.crack(0, 40, 3);
        y.pass(1);
        due("in above the crack", y.about(0, WATER), 300 + 3 * 20);
        y.mend(0);
        y.crack(0, 10, 3);
        y.pass(1);
        due("in above the level", y.about(0, WATER), 360 + 3 * 24);
        y.crack(0, 0, 50);
        y.pass(1);
        due("no further than the sea", y.about(0, WATER), 600);
        PoolCoast z = stillSea(40);
        z.pool(10, 0, 100, 100, 7, 0, 30);
        z.crack(0, 40, 50);
        z.pass(1);
        due("sea at the crack", z.about(0, WATER), 300);
    }

    private static void overTheWall() {
        PoolCoast x = stillSea(90);
        x.pool(100, 0, 100, 100, 0, 3, 30);
        x.wave(0, 10);
        x.wave(1, 11);
        x.pass(6);
        due("at the wall", x.about(0, WATER), 3000);
        x.pass(6);
        due("above the wall", x.about(0, WATER), 3018);
        x.set(0, 500);
        x.pass(4);
        due("worst", x.about(0, WATER), 3018 + 4 * 3 * 490);
        x.pass(1);
        due("no further than the wall", x.about(0, WATER), 10000);
        PoolCoast y = stillSea(90);
        y.pool(100, 0, 100, 100, 0, 100, 99);
        y.set(0, 500);
        y.pass(1);
        due("what is above the wall goes", y.about(0, WATER), 10000);
    }

    private static void underTheSea() {
        PoolCoast x = stillSea(130);
        x.pool(100, 0, 100, 100, 0, 3, 30);
        x.pass(7);
        due("as the sea", x.about(0, WATER), 13000);
        due("level", x.about(0, LEVEL), 130);
        due("new", x.about(0, AGE), 0);
        PoolCoast y = stillSea(100);
        y.pool(100, 0, 100, 100, 0, 3, 30);
        y.pass(7);
        due("the sea at the wall", y.about(0, WATER), 3000);
    }

    /** The same flows as above 100 centimetres lower. */
    private static void floorsBelowZero() {
        PoolCoast x = stillSea(-80);
        x.pool(100, -100, 0, -50, 7, 0, 80);
        x.sluice(0, true);
        x.pass(1);
        due("down to the sill", x.about(0, WATER), 8000 - 7 * 30);
        due("level", x.about(0, LEVEL), -23);
        PoolCoast y = stillSea(-30);
        y.pool(10, -100, 0, -50, 50, 0, 71);
        y.sluice(0, true);
        y.pass(1);
        due("no further than the sea", y.about(0, WATER), 700);
        y.crack(0, -40, 50);
        y.sluice(0, false);
        y.pump(0, 2);
        y.pass(2);
        due("in by the pump, out by the crack", y.about(0, WATER), 704);
        PoolCoast z = stillSea(10);
        z.pool(100, -100, 0, 0, 0, 3, 30);
        z.pass(1);
        due("as the sea", z.about(0, WATER), 11000);
        PoolCoast v = stillSea(-200);
        v.pool(100, -100, 0, 0, 0, 0, 100);
        v.pump(0, 50);
        v.pass(2);
        due("no further than the wall", v.about(0, WATER), 10000);
    }

    private static void pumps() {
        PoolCoast x = stillSea(-500);
        x.pool(10, 0, 100, 100, 0, 0, 50);
        x.pump(0, 30);
        x.pass(2);
        due("in", x.about(0, WATER), 560);
        due("pumped", x.about(0, PUMPED), 60);
        x.pump(0, -400);
        x.pass(2);
        due("empty", x.about(0, WATER), 0);
        due("what really went", x.about(0, PUMPED), 620);
        due("no water, no age", x.about(0, AGE), 0);
        x.pump(0, 1000);
        x.pass(2);
        due("full", x.about(0, LEVEL), 100);
        due("pumped all the same", x.about(0, PUMPED), 2620);
        due("foretold", x.hour(0, 100, 0), 100);
        due("nothing is pumped ahead", x.about(0, PUMPED), 2620);
    }

    private static void ages() {
        PoolCoast x = stillSea(-500);
        x.pool(10, 0, 100, 100, 0, 0, 50);
        x.pass(11);
        due("11 ticks", x.about(0, AGE), 1);
        x.pass(1);
        due("12 ticks", x.about(0, AGE), 2);
        x.pump(0, 500);
        // OLD 12 * 500 and 500 more, by 1000 is 6
        x.pass(1);
        due("half of it new", x.about(0, AGE), 1);
        x.pump(0, -100);
        x.pass(1);
        // OLD 7500 less 7500 * 100 / 1000 is 6750, by 900 is 7
        due("out takes both", x.about(0, AGE), 1);
        x.pump(0, 0);
        x.pass(4);
        due("7 and a half and 4", x.about(0, AGE), 1);
        x.pass(1);
        due("12 and a half", x.about(0, AGE), 2);
    }

    private static void dirtAndStorms() {
        PoolCoast x = stillSea(-500);
        x.pool(10, 0, 100, 100, 0, 0, 50);
        x.dirt(0, 3, 5);
        x.wave(20, 149);
        x.wave(40, 150);
        x.pass(143);
        due("not yet", x.about(0, DIRT), 0);
        x.pass(1);
        due("no storm", x.about(0, DIRT), 3);
        x.pass(144);
        due("storm", x.about(0, DIRT), 11);
        x.set(1, 0);
        due("storm without rows foretold", x.hour(0, 71, 2), 19);
        x.set(1, 1);
        due("none foretold", x.hour(0, 71, 2), 14);
        x.wave(50, 1);
        x.wave(50, 0);
        due("the last row counts", x.hour(0, 71, 2), 14);
        x.pass(143);
        x.wave(49, 1);
        x.pass(1);
        due("a row for an hour that is over", x.about(0, DIRT), 19);
    }

    private static void cleaning() {
        PoolCoast x = stillSea(-500);
        x.pool(10, 0, 100, 100, 0, 0, 6);
        x.pool(10, 0, 100, 100, 0, 0, 5);
        x.dirt(0, 3, 0);
        x.dirt(1, 4, 0);
        x.pass(144);
        due("too much water", x.clean(0), -1);
        due("nothing happens", x.about(0, DIRT), 3);
        due("clean", x.clean(1), 4);
        due("cleaned", x.about(1, DIRT), 0);
        due("again", x.clean(1), 0);
        x.pump(0, -1);
        x.pass(1);
        due("59 units of 10", x.clean(0), 3);
    }

    private static void passing() {
        PoolCoast x = new PoolCoast();
        due("0", x.pass(0), -1);
        due("-1", x.pass(-1), -1);
        due("289", x.pass(289), -1);
        due("288", x.pass(288), 288);
        due("1", x.pass(1), 289);
        for (int i = 0; i < 48; i++) {
            x.pass(288);
        }
        due("now", x.count(0), 14113);
        due("beyond", x.pass(288), -1);
        due("still", x.count(0), 14113);
        due("to the end", x.pass(287), 14400);
        due("at the end", x.pass(1), -1);
    }

    private static void keptAndForetold() {
        PoolCoast x = stillSea(-500);
        x.pool(10, 0, 100, 100, 0, 0, 50);
        x.pump(0, 10);
        due("foretold 0", x.hour(0, 0, 0), 56);
        due("foretold 1", x.hour(0, 1, 0), 62);
        due("foretold 240", x.hour(0, 240, 0), 100);
        due("beyond 240", x.hour(0, 241, 0), -1000);
        due("hour -1", x.hour(0, -1, 0), -1000);
        due("what 3", x.hour(0, 0, 3), -1000);
        due("what -1", x.hour(0, 0, -1), -1000);
        x.pump(0, 20);
        due("foretold anew", x.hour(0, 1, 0), 74);
        x.pass(9);
        due("kept 0", x.hour(0, 0, 0), 62);
        x.pump(0, 0);
        due("foretold from now on", x.hour(0, 1, 0), 68);
        due("kept still", x.hour(0, 0, 0), 62);
        due("age foretold", x.hour(0, 100, 1), 100);
        due("age kept", x.hour(0, 0, 1), 0);
        due("dirt", x.hour(0, 100, 2), 0);
        due("240 from now", x.hour(0, 241, 1), 241);
        due("241 from now", x.hour(0, 242, 1), -1000);
        for (int i = 0; i < 45; i++) {
            x.pass(288);
        }
        due("the last hour", x.hour(0, 2399, 0), 68);
        due("hour 2400", x.hour(0, 2400, 0), -1000);
        due("kept long ago", x.hour(0, 1, 0), 68);
    }

    private static void latePool() {
        PoolCoast x = stillSea(-500);
        x.pass(15);
        x.pool(10, 0, 100, 100, 0, 0, 50);
        due("ahead of it", x.hour(0, 1, 0), -1000);
        due("in its hour", x.hour(0, 2, 0), 50);
        x.pass(100);
        due("still ahead of it", x.hour(0, 1, 0), -1000);
        due("its hour is kept", x.hour(0, 2, 0), 50);
        due("its age then", x.hour(0, 3, 1), 1);
    }
}
