/** The edges that the terms name for ticks, hours, days, the sea and the waves (promises 1 to 6). */
public final class SeaEdgeTest {
    private static final Check CHECK = new Check();

    public static void main(String[] args) {
        ticksHoursAndDays();
        turnsAnywhere();
        fullOfTurns();
        withoutTurns();
        oneTurn();
        atTurnsAndBesideThem();
        shortestAndLongest();
        towardsZero();
        rowsBehindAndAhead();
        knownFromItsHour();
        fullOfRows();
        worstAsItIsNow();
        CHECK.finish();
    }

    private static void due(String what, long got, long want) {
        CHECK.due(what, got, want);
    }

    /** TICK / 6 is the HOUR, HOUR / 24 the DAY: looked at where waves and races take NOW's. */
    private static void ticksHoursAndDays() {
        int[] ticks = {0, 5, 6, 143, 144, 14399};
        int[] hours = {0, 0, 1, 23, 24, 2399};
        for (int i = 0; i < ticks.length; i++) {
            PoolCoast x = Coasts.passTo(new PoolCoast(), ticks[i]);
            due("now", x.count(0), ticks[i]);
            int last = Math.min(2399, hours[i] + 240);
            due("240 behind hour " + hours[i], x.wave(last, 9), 1);
            due("one more", x.wave(last + 1, 9), -1);
            x.pool(10, 0, 100, 100, 0, 0, 0);
            int day = hours[i] / 24;
            due("today", x.race(0, day, 23, 1, 0, 1200, 500), 23);
            due("yesterday", x.race(0, day - 1, 23, 1, 0, 1200, 500), -1);
        }
        PoolCoast end = Coasts.passTo(new PoolCoast(), 14400);
        due("the end", end.count(0), 14400);
        due("nothing is told at the end", end.wave(2399, 9), -1);
    }

    private static void turnsAnywhere() {
        PoolCoast x = new PoolCoast();
        due("the first at the last tick", x.turn(14399, 900), 1);
        due("none behind it", x.turn(14405, 0), -1);
        due("the sea ahead of it", x.sea(0), 900);
        due("the sea at it", x.sea(14399), 900);
        PoolCoast y = Coasts.passTo(new PoolCoast(), 600);
        due("the first behind now", y.turn(0, -500), 1);
        due("the second behind now", y.turn(6, 5), 2);
        due("the same tick", y.turn(6, 5), -1);
        due("up to the last tick", Coasts.passTo(y, 14394).turn(106, 5), 3);
        PoolCoast z = new PoolCoast();
        z.turn(14390, 0);
        due("within the ticks", z.turn(14399, 3), 2);
        due("at the last tick", z.sea(14399), 3);
    }

    private static void fullOfTurns() {
        PoolCoast x = new PoolCoast();
        for (int i = 0; i < 499; i++) {
            x.turn(28 * i, i % 2);
        }
        due("the 500th too near", x.turn(28 * 498 + 5, 1), -1);
        due("the 500th", x.turn(28 * 499, 7), 500);
        due("the 501st", x.turn(28 * 500, 8), -1);
        due("turns", x.count(1), 500);
        due("the last one's level", x.sea(14399), 7);
        due("between the two last", x.sea(28 * 498), 0);
    }

    private static void withoutTurns() {
        PoolCoast x = new PoolCoast();
        due("at the first tick", x.sea(0), 0);
        due("at the last tick", x.sea(14399), 0);
        due("ahead of the first tick", x.sea(-1), -1000);
        due("behind the last tick", x.sea(14400), -1000);
        x.turn(-1, 500);
        due("a turn that was refused", x.sea(0), 0);
    }

    private static void oneTurn() {
        PoolCoast x = new PoolCoast();
        x.turn(50, -77);
        due("ahead", x.sea(49), -77);
        due("at it", x.sea(50), -77);
        due("behind", x.sea(51), -77);
    }

    private static void atTurnsAndBesideThem() {
        PoolCoast x = new PoolCoast();
        x.turn(60, 0);
        x.turn(66, 120);
        x.turn(78, -120);
        // 6 ticks: a sixth each, 1, 3, 6, 9, 11 of 12; 12 ticks: half a sixth each
        int[] levels = {0, 0, 10, 30, 60, 90, 110, 120, 110, 100, 80, 60, 30, 0, -30, -60, -80, -100, -110, -120, -120};
        for (int i = 0; i < levels.length; i++) {
            due("tick " + (59 + i), x.sea(59 + i), levels[i]);
        }
    }

    private static void shortestAndLongest() {
        PoolCoast x = new PoolCoast();
        x.turn(0, -500);
        x.turn(100, 900);
        x.turn(106, -500);
        // a 1: j 0, r 6, P 6; 1400 * 6 / 1200 is 7
        due("1 of 100", x.sea(1), -493);
        // a 16: j 0, r 96, P 96: 112; a 17: j 1, r 2, P 104: 121 and a third
        due("16 of 100", x.sea(16), -388);
        due("17 of 100", x.sea(17), -379);
        due("half", x.sea(50), 200);
        // a 99: j 5, r 94, P 1194: 1393
        due("99 of 100", x.sea(99), 893);
        due("at the turn", x.sea(100), 900);
        // 1400 by 12 is 116 and two thirds
        due("1 of 6", x.sea(101), 784);
        due("5 of 6", x.sea(105), -383);
    }

    /** A difference of 1 or -1 shows only at the second turn, one of 0 never. */
    private static void towardsZero() {
        for (int sign = -1; sign <= 1; sign++) {
            PoolCoast x = new PoolCoast();
            x.turn(0, -7);
            x.turn(50, -7 + sign);
            for (int tick = 0; tick < 50; tick++) {
                due("towards 0 at " + tick, x.sea(tick), -7);
            }
            due("at the second", x.sea(50), -7 + sign);
        }
        PoolCoast y = new PoolCoast();
        y.turn(0, 0);
        y.turn(7, 239);
        y.turn(14, 0);
        // 239 * 6 / 84 is 17 and a little
        due("up", y.sea(1), 17);
        due("down", y.sea(8), 222);
    }

    private static void rowsBehindAndAhead() {
        PoolCoast x = Coasts.passTo(new PoolCoast(), 599);
        due("hour 0 behind hour 99", x.wave(0, 1), 1);
        due("240 behind hour 99", x.wave(339, 2), 2);
        due("241 behind hour 99", x.wave(340, 3), -1);
        x.pass(1);
        due("240 behind hour 100", x.wave(340, 4), 3);
        due("row of hour 0", x.waved(0, 99), 1);
        due("not known in 98", x.waved(0, 98), 100);
        due("row of hour 340", x.waved(340, 100), 4);
        due("not known in 99", x.waved(340, 99), 100);
        due("an hour further than rows reach", x.waved(2399, 2399), 100);
    }

    private static void knownFromItsHour() {
        PoolCoast x = Coasts.passTo(new PoolCoast(), 11);
        x.wave(9, 50);
        x.pass(1);
        x.wave(9, 60);
        x.wave(9, 0);
        due("known in 0", x.waved(9, 0), 100);
        due("known in 1", x.waved(9, 1), 50);
        due("known in 2, the last one told", x.waved(9, 2), 0);
        Coasts.passTo(x, 18);
        x.wave(9, 500);
        due("known in 2 still", x.waved(9, 2), 0);
        due("known in 3", x.waved(9, 3), 500);
    }

    private static void fullOfRows() {
        PoolCoast x = new PoolCoast();
        for (int i = 0; i < 1499; i++) {
            x.wave(i % 241, i % 400);
        }
        due("row 1500 too far", x.wave(241, 1), -1);
        due("row 1500 too high", x.wave(7, 501), -1);
        due("row 1500", x.wave(7, 444), 1500);
        due("row 1501", x.wave(7, 3), -1);
        due("rows", x.count(2), 1500);
        due("the last one of hour 7", x.waved(7, 0), 444);
        due("the last one of hour 8", x.waved(8, 0), (8 + 241 * 6) % 400);
        PoolCoast y = new PoolCoast();
        y.wave(7, 33);
        y.pass(6);
        for (int i = 1; i < 1500; i++) {
            y.wave(7, 44);
        }
        due("of 1500 rows of one hour the only one known in 0", y.waved(7, 0), 33);
        due("the last one known in 1", y.waved(7, 1), 44);
    }

    private static void worstAsItIsNow() {
        PoolCoast x = Coasts.passTo(new PoolCoast(), 60);
        x.wave(3, 40);
        due("was", x.set(0, 500), 100);
        due("an hour that is over", x.waved(2, 2), 500);
        due("an hour whose row was not yet known", x.waved(3, 9), 500);
        due("an hour with a row", x.waved(3, 10), 40);
        due("was 500", x.set(0, 0), 500);
        due("none", x.waved(3, 9), 0);
    }
}
