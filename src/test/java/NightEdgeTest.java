/** The edges that the terms name for nights, suspects, the cause and the next look (promises 28 to 32). */
public final class NightEdgeTest {
    private static final Check CHECK = new Check();

    public static void main(String[] args) {
        fullOfNights();
        fullOfSuspects();
        aloneAndPairs();
        offByOneEachWay();
        atItsOwnDepth();
        depthsDownwards();
        eachAsItBegins();
        manyTicks();
        allNights();
        latestCause();
        looksOfTwo();
        lookTicks();
        leastLook();
        lookByOne();
        looksOfFewerSets();
        CHECK.finish();
    }

    private static void due(String what, long got, long want) {
        CHECK.due(what, got, want);
    }

    private static PoolCoast withPool(int area) {
        PoolCoast x = new PoolCoast();
        x.pool(area, 0, 900, 900, 0, 0, 0);
        return x;
    }

    private static void fullOfNights() {
        PoolCoast x = withPool(10);
        x.suspect(0, 0, 1);
        for (int i = 1; i < 20; i++) {
            due("night " + i, x.night(0, 0, 0, i), i);
        }
        due("one cause", x.cause(0), 1);
        due("the 20th with a below b", x.night(0, 4, 5, 1), -1);
        due("the 20th", x.night(0, 1200, 1200, 1), 20);
        due("the 20th counts", x.cause(0), 0);
        due("the 21st", x.night(0, 0, 0, 1), -1);
        due("of another pool", x.night(1, 0, 0, 1), -1);
        x.pool(10, 0, 900, 900, 0, 0, 0);
        due("of a pool that is there", x.night(1, 0, 0, 1), 1);
    }

    private static void fullOfSuspects() {
        PoolCoast x = withPool(10);
        for (int i = 0; i < 7; i++) {
            due("suspect " + i, x.suspect(0, 100, 1), i);
        }
        x.night(0, 50, 45, 1);
        due("none of the seven", x.cause(0), 0);
        due("the 8th too strong", x.suspect(0, 0, 51), -1);
        due("the 8th", x.suspect(0, 0, 1), 7);
        due("the 8th alone and with each", x.cause(0), 8);
        due("alone", x.causes(0, 0), 7);
        due("the last pair's lesser", x.causes(7, 0), 6);
        due("the last pair's greater", x.causes(7, 1), 7);
        due("the 9th", x.suspect(0, 0, 1), -1);
        due("as ahead", x.cause(0), 8);
    }

    private static void aloneAndPairs() {
        PoolCoast x = withPool(10);
        due("no suspects", x.cause(0), 0);
        due("no set", x.causes(0, 0), -1);
        x.night(0, 5, 5, 1);
        due("no suspects and a night", x.cause(0), 0);
        x.suspect(0, 5, 1);
        due("one", x.cause(0), 1);
        x.suspect(0, 5, 1);
        due("two and a pair", x.cause(0), 3);
        int[][] sets = {{0, -1}, {1, -1}, {0, 1}, {-1, -1}};
        for (int k = 0; k < sets.length; k++) {
            due("first of " + k, x.causes(k, 0), sets[k][0]);
            due("second of " + k, x.causes(k, 1), sets[k][1]);
            due("third of " + k, x.causes(k, 2), -1);
        }
    }

    /** What is told by a crack at 0 of RATE 1 on an AREA of 1: in one tick all is gone. */
    private static void offByOneEachWay() {
        for (int b = 0; b <= 3; b++) {
            PoolCoast x = withPool(1);
            x.suspect(0, 0, 1);
            x.night(0, 9, b, 1);
            due("to 0, told " + b, x.cause(0), b <= 1 ? 1 : 0);
        }
        // 3 * (20 - 10) of 200: 170
        for (int b = 14; b <= 20; b++) {
            PoolCoast x = withPool(10);
            x.suspect(0, 10, 3);
            x.night(0, 20, b, 1);
            due("to 17, told " + b, x.cause(0), b >= 16 && b <= 18 ? 1 : 0);
        }
    }

    private static void atItsOwnDepth() {
        // depth, what a crack at 30 of RATE 7 leaves of it in one tick, on an AREA of 5
        int[][] cases = {{29, 29}, {30, 30}, {31, 30}, {32, 30}, {40, 30}, {0, 0}};
        for (int[] each : cases) {
            for (int off = -2; off <= 2; off++) {
                PoolCoast x = withPool(5);
                x.suspect(0, 30, 7);
                int b = each[1] + off;
                if (x.night(0, each[0], b, 1) == 1) {
                    due("from " + each[0] + ", told " + b, x.cause(0), Math.abs(off) <= 1 ? 1 : 0);
                }
            }
        }
        PoolCoast deep = withPool(2000);
        deep.suspect(0, 1200, 50);
        deep.suspect(0, 1199, 50);
        deep.night(0, 1200, 1200, 100);
        due("nothing, or a little", deep.cause(0), 3);
    }

    /** The depth is units by AREA, downwards: 99 units of 10 are 9. */
    private static void depthsDownwards() {
        PoolCoast x = withPool(10);
        x.suspect(0, 9, 1);
        // 100: 1 less; 99, a depth of 9: nothing more
        x.night(0, 10, 9, 100);
        due("99 units", x.cause(0), 1);
        PoolCoast y = withPool(10);
        y.suspect(0, 0, 1);
        // 30, 27, 25, 23, 21, 19, 18, 17 .. 10, 9: then nothing more goes
        y.night(0, 3, 0, 100);
        due("down to 9 units", y.cause(0), 1);
        y.night(0, 3, 1, 14);
        due("10 units behind 14 ticks", y.cause(0), 1);
        y.night(0, 5, 5, 1);
        due("45 units behind one", y.cause(0), 1);
    }

    private static void eachAsItBegins() {
        // 0 leaves 60 of 100, a depth of 6; 1 takes 5 * (6 - 4); the other way round 1 leaves 70 and 0 takes 28
        for (int b = 3; b <= 6; b++) {
            PoolCoast y = withPool(10);
            y.suspect(0, 0, 4);
            y.suspect(0, 4, 5);
            y.night(0, 10, b, 1);
            int alone = (b >= 5 ? 1 : 0) + (b == 6 ? 1 : 0);
            due("told " + b, y.cause(0), alone + (b >= 4 ? 1 : 0));
        }
        PoolCoast z = withPool(10);
        z.suspect(0, 0, 7);
        z.suspect(0, 4, 7);
        // 0 leaves 30, and nothing for 1; 1 alone leaves 58; 1 ahead of 0 would leave 23
        z.night(0, 10, 4, 1);
        due("0, 1 and both", z.cause(0), 3);
        due("both: 0", z.causes(2, 0), 0);
        due("both: 1", z.causes(2, 1), 1);
    }

    private static void manyTicks() {
        // a RATE of 1 takes a unit of 2000 for each centimetre
        PoolCoast x = withPool(2000);
        x.suspect(0, 0, 1);
        for (int ticks : new int[] {1, 2, 99, 100}) {
            int left = 1200 * 2000;
            for (int i = 0; i < ticks; i++) {
                left -= left / 2000;
            }
            x.night(0, 1200, left / 2000, ticks);
            due("ticks " + ticks, x.cause(0), 1);
        }
        x.night(0, 1200, 1200 - 5, 100);
        due("not so slow", x.cause(0), 0);
    }

    private static void allNights() {
        PoolCoast x = withPool(10);
        x.suspect(0, 0, 1);
        x.suspect(0, 50, 1);
        x.night(0, 100, 90, 1);
        due("0 alone", x.cause(0), 1);
        x.night(0, 50, 45, 1);
        due("0 alone still", x.cause(0), 1);
        x.night(0, 100, 86, 1);
        due("what both tell is not what 0 tells", x.cause(0), 0);
        PoolCoast y = withPool(10);
        y.suspect(0, 0, 1);
        y.suspect(0, 50, 1);
        y.night(0, 100, 86, 1);
        due("a pair alone", y.cause(0), 1);
        due("its lesser", y.causes(0, 0), 0);
        due("its greater", y.causes(0, 1), 1);
        due("one set has no look", y.look(), -1);
    }

    private static void latestCause() {
        PoolCoast x = withPool(10);
        x.pool(10, 0, 900, 900, 0, 0, 0);
        due("none yet", x.causes(0, 0), -1);
        due("no look yet", x.look(), -1);
        due("a cause that is refused", x.cause(2), -1);
        due("none still", x.causes(0, 0), -1);
        x.suspect(0, 100, 50);
        x.suspect(0, 200, 50);
        x.suspect(1, 5, 5);
        due("of pool 0", x.cause(0), 3);
        int look = x.look();
        x.night(0, 900, 900, 1);
        x.suspect(0, 0, 50);
        due("as it was", x.causes(2, 1), 1);
        due("no more sets", x.causes(3, 0), -1);
        due("the look as it was", x.look(), look);
        due("of pool 7", x.cause(7), -1);
        due("as it was still", x.causes(2, 1), 1);
        due("of pool 1", x.cause(1), 1);
        due("one set", x.causes(1, 0), -1);
        due("no look for it", x.look(), -1);
        due("of pool 0 again", x.cause(0), 0);
        due("none now", x.causes(0, 0), -1);
        due("no look for none", x.look(), -1);
        Coasts.passTo(x, 14400);
        due("at the end", x.cause(1), 1);
        due("its suspect", x.causes(0, 0), 0);
    }

    /** Two sets, of which a night rules out the pair. */
    private static void looksOfTwo() {
        PoolCoast x = withPool(10);
        x.suspect(0, 100, 5);
        x.suspect(0, 0, 1);
        x.night(0, 200, 150, 1);
        // 0 leaves 1500, 1 leaves 1800, both 1350
        due("0 alone", x.cause(0), 1);
        due("no look for one", x.look(), -1);
        PoolCoast y = withPool(1);
        y.suspect(0, 100, 50);
        y.suspect(0, 290, 50);
        y.suspect(0, 1000, 1);
        y.night(0, 300, 100, 2);
        due("0, and it with each", y.cause(0), 3);
        due("no depth tells them apart", y.look(), 10);
        PoolCoast z = withPool(1);
        z.suspect(0, 100, 50);
        z.suspect(0, 290, 50);
        z.night(0, 100, 100, 1);
        z.night(0, 400, 290, 1);
        due("1 alone", z.cause(0), 1);
        PoolCoast v = withPool(1);
        v.suspect(0, 200, 50);
        v.suspect(0, 250, 50);
        v.suspect(0, 0, 50);
        v.night(0, 9, 9, 1);
        due("all without 2", v.cause(0), 3);
        due("250 is the first of the widest", v.look(), 250);
        PoolCoast w = withPool(1);
        w.suspect(0, 0, 50);
        w.suspect(0, 77, 50);
        w.night(0, 1, 0, 1);
        w.night(0, 80, 0, 1);
        due("0, and both", w.cause(0), 2);
        due("two sets that tell the same", w.look(), 10);
    }

    /** 12 ticks, neither less nor more: what two slow cracks leave is furthest apart at another depth else. */
    private static void lookTicks() {
        PoolCoast x = withPool(60);
        x.suspect(0, 0, 1);
        x.suspect(0, 200, 50);
        due("all sets", x.cause(0), 3);
        due("the depth", x.look(), widest(60, 12, new int[][] {{0, 1}, {200, 50}}));
        int[] depths = {20, 60, 100, 140, 190, 240};
        int[] rates = {1, 2, 5, 9, 20, 50};
        for (int i = 0; i < depths.length; i++) {
            for (int k = 0; k < depths.length; k++) {
                PoolCoast y = withPool(37);
                y.suspect(0, depths[i], rates[k]);
                y.suspect(0, depths[k], rates[i]);
                y.cause(0);
                int[][] both = {{depths[i], rates[k]}, {depths[k], rates[i]}};
                due("look of " + i + " and " + k, y.look(), widest(37, 12, both));
            }
        }
    }

    /** The look for two suspects, alone and both, worked out once more. */
    private static int widest(int area, int ticks, int[][] both) {
        int best = 0;
        int widest = -1;
        for (int depth = 10; depth <= 300; depth += 10) {
            int[] left = new int[3];
            for (int set = 1; set <= 3; set++) {
                int units = depth * area;
                for (int t = 0; t < ticks; t++) {
                    for (int s = 0; s < 2; s++) {
                        int over = units / area - both[s][0];
                        int most = units - area * both[s][0];
                        units -= (set >> s & 1) == 1 && over > 0 ? Math.min(both[s][1] * over, most) : 0;
                    }
                }
                left[set - 1] = units / area;
            }
            int spread = Math.max(left[0], Math.max(left[1], left[2])) - Math.min(left[0], Math.min(left[1], left[2]));
            if (spread > widest) {
                widest = spread;
                best = depth;
            }
        }
        return best;
    }

    private static void leastLook() {
        // a crack at 0 takes all from each depth, one at d leaves d of all deeper ones: the least depth not below d
        for (int d : new int[] {1, 9, 10, 11, 150, 155, 290, 291, 300, 301, 310, 1200}) {
            PoolCoast x = withPool(1);
            x.suspect(0, 0, 50);
            x.suspect(0, d, 50);
            x.cause(0);
            due("a crack at " + d, x.look(), Math.min(300, (d + 9) / 10 * 10));
        }
    }

    /** From 300 alone one of them leaves a centimetre behind 12 ticks, the other none; from all others none does. */
    private static void lookByOne() {
        PoolCoast x = withPool(20);
        x.suspect(0, 0, 8);
        x.suspect(0, 0, 20);
        due("all sets", x.cause(0), 3);
        due("the last of the depths", x.look(), 300);
    }

    /** A look is by the sets of the latest cause alone, not by those of one ahead of it. */
    private static void looksOfFewerSets() {
        PoolCoast x = withPool(1);
        x.suspect(0, 0, 50);
        x.suspect(0, 77, 50);
        x.suspect(0, 77, 50);
        due("all sets", x.cause(0), 6);
        due("77 apart", x.look(), 80);
        x.night(0, 9, 9, 1);
        due("those without 0", x.cause(0), 3);
        due("its first", x.causes(0, 0), 1);
        due("none behind its last", x.causes(3, 0), -1);
        due("they tell the same", x.look(), 10);
    }
}
