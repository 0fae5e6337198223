/** Promises 1 to 6: a new object, turn, sea, wave, waved, set. */
public final class SeaTest {
    private static final Check CHECK = new Check();

    public static void main(String[] args) {
        newObject();
        turns();
        seaBetweenTurns();
        waves();
        wavesAsKnown();
        settings();
        CHECK.finish();
    }

    private static void due(String what, long got, long want) {
        CHECK.due(what, got, want);
    }

    private static void newObject() {
        PoolCoast x = new PoolCoast();
        due("NONE", PoolCoast.NONE, -1);
        for (int what = 0; what <= 7; what++) {
            due("new count " + what, x.count(what), 0);
        }
        due("new WORST", x.count(8), 100);
        due("new STORM", x.count(9), 150);
        due("new n", x.count(10), 8);
        due("new sea", x.sea(700), 0);
        due("no pool", x.about(0, 0), -1000);
    }

    private static void turns() {
        PoolCoast x = new PoolCoast();
        due("turn tick -1", x.turn(-1, 0), -1);
        due("turn tick 14400", x.turn(14400, 0), -1);
        due("turn level -501", x.turn(0, -501), -1);
        due("turn level 901", x.turn(0, 901), -1);
        due("first anywhere", x.turn(1000, -500), 1);
        due("5 behind", x.turn(1005, 0), -1);
        due("ahead", x.turn(900, 0), -1);
        due("101 behind", x.turn(1101, 0), -1);
        due("6 behind", x.turn(1006, 900), 2);
        due("100 behind", x.turn(1106, 900), 3);
        due("far", x.turn(Integer.MIN_VALUE, 0), -1);
        due("count", x.count(1), 3);
        PoolCoast y = new PoolCoast();
        for (int i = 0; i < 500; i++) {
            due("turn " + i, y.turn(6 * i, i % 2 * 100), i + 1);
        }
        due("turn 501", y.turn(3006, 0), -1);
    }

    private static void seaBetweenTurns() {
        PoolCoast x = new PoolCoast();
        x.turn(100, 0);
        due("one turn, ahead", x.sea(0), 0);
        x.turn(136, 120);
        x.turn(143, -119);
        due("sea -1", x.sea(-1), -1000);
        due("sea 14400", x.sea(14400), -1000);
        due("ahead of the first", x.sea(5), 0);
        due("at the first", x.sea(100), 0);
        int[] twelfths = {0, 1, 3, 6, 9, 11, 12};
        for (int j = 0; j <= 6; j++) {
            due("sixth " + j, x.sea(100 + 6 * j), twelfths[j] * 10);
        }
        // a 9 of 36: j 1, r 18, P 1 * 36 + 2 * 18 is 72 of 432
        due("between sixths", x.sea(109), 20);
        // a 1 of 7: j 0, r 6, P 6 of 84; -239 * 6 / 84 is -17 towards 0
        due("towards 0 downwards", x.sea(137), 103);
        due("at the last", x.sea(143), -119);
        due("behind the last", x.sea(14399), -119);
    }

    private static void waves() {
        PoolCoast x = new PoolCoast();
        due("hour -1", x.wave(-1, 0), -1);
        due("height -1", x.wave(0, -1), -1);
        due("height 501", x.wave(0, 501), -1);
        due("241 behind", x.wave(241, 0), -1);
        due("240 behind", x.wave(240, 500), 1);
        due("now", x.wave(0, 0), 2);
        x.pass(288);
        due("ahead of now", x.wave(47, 3), 3);
        due("240 behind 48", x.wave(288, 3), 4);
        due("241 behind 48", x.wave(289, 3), -1);
        due("count", x.count(2), 4);
        for (int i = 5; i <= 1500; i++) {
            x.wave(60, i % 500);
        }
        due("1500", x.count(2), 1500);
        due("1501", x.wave(60, 0), -1);
        PoolCoast y = new PoolCoast();
        for (int i = 0; i < 49; i++) {
            y.pass(288);
        }
        due("hour 2399", y.wave(2399, 7), 1);
        due("hour 2400", y.wave(2400, 7), -1);
    }

    private static void wavesAsKnown() {
        PoolCoast x = new PoolCoast();
        due("worst", x.waved(5, 0), 100);
        x.wave(5, 10);
        x.wave(5, 20);
        x.pass(12);
        x.wave(5, 30);
        due("the last of hour 0", x.waved(5, 0), 20);
        due("not yet in 1", x.waved(5, 1), 20);
        due("known in 2", x.waved(5, 2), 30);
        due("known in 2399", x.waved(5, 2399), 30);
        due("another hour", x.waved(6, 2399), 100);
        x.set(0, 7);
        due("worst as it is now", x.waved(6, 0), 7);
        due("hour -1", x.waved(-1, 0), -1);
        due("hour 2400", x.waved(2400, 0), -1);
        due("known -1", x.waved(0, -1), -1);
        due("known 2400", x.waved(0, 2400), -1);
    }

    private static void settings() {
        PoolCoast x = new PoolCoast();
        due("what -1", x.set(-1, 3), -1);
        due("what 3", x.set(3, 3), -1);
        due("worst 501", x.set(0, 501), -1);
        due("worst -1", x.set(0, -1), -1);
        due("storm 501", x.set(1, 501), -1);
        due("n 0", x.set(2, 0), -1);
        due("n 25", x.set(2, 25), -1);
        due("nothing happened", x.count(8) * 1000000 + x.count(9) * 1000 + x.count(10), 100150008);
        due("worst 0", x.set(0, 0), 100);
        due("worst 500", x.set(0, 500), 0);
        due("storm 0", x.set(1, 0), 150);
        due("storm 500", x.set(1, 500), 0);
        due("n 1", x.set(2, 1), 8);
        due("n 24", x.set(2, 24), 1);
        due("set", x.count(8) * 1000000 + x.count(9) * 1000 + x.count(10), 500500024);
    }
}
