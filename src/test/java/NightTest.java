/** Promises 28 to 32: night, suspect, cause, causes, look. */
public final class NightTest {
    private static final Check CHECK = new Check();

    public static void main(String[] args) {
        nights();
        suspects();
        causesInOrder();
        offByOne();
        pairsByNumbers();
        neverBelowItsOwn();
        causesOfPools();
        looks();
        CHECK.finish();
    }

    private static void due(String what, long got, long want) {
        CHECK.due(what, got, want);
    }

    private static PoolCoast withPool(int area) {
        PoolCoast x = new PoolCoast();
        x.pool(area, 0, 900, 900, 0, 0, 0);
        return x;
    }

    private static void nights() {
        PoolCoast x = withPool(10);
        due("pool 1", x.night(1, 5, 4, 1), -1);
        due("pool -1", x.night(-1, 5, 4, 1), -1);
        due("a below b", x.night(0, 4, 5, 1), -1);
        due("a 1201", x.night(0, 1201, 5, 1), -1);
        due("b -1", x.night(0, 5, -1, 1), -1);
        due("0 ticks", x.night(0, 5, 4, 0), -1);
        due("101 ticks", x.night(0, 5, 4, 101), -1);
        due("the same depth", x.night(0, 1200, 1200, 100), 1);
        due("to 0", x.night(0, 1200, 0, 1), 2);
        for (int i = 3; i <= 20; i++) {
            due("night " + i, x.night(0, 5, 4, 1), i);
        }
        due("night 21", x.night(0, 5, 4, 1), -1);
        x.pool(10, 0, 900, 900, 0, 0, 0);
        due("of another pool", x.night(1, 5, 4, 1), 1);
    }

    private static void suspects() {
        PoolCoast x = withPool(10);
        due("pool 1", x.suspect(1, 5, 4), -1);
        due("pool -1", x.suspect(-1, 5, 4), -1);
        due("depth -1", x.suspect(0, -1, 4), -1);
        due("depth 1201", x.suspect(0, 1201, 4), -1);
        due("rate 0", x.suspect(0, 0, 0), -1);
        due("rate 51", x.suspect(0, 0, 51), -1);
        due("number 0", x.suspect(0, 1200, 50), 0);
        for (int i = 1; i <= 7; i++) {
            due("number " + i, x.suspect(0, 0, i), i);
        }
        due("ninth", x.suspect(0, 0, 8), -1);
        x.pool(10, 0, 900, 900, 0, 0, 0);
        due("of another pool", x.suspect(1, 5, 4), 0);
    }

    private static void causesInOrder() {
        PoolCoast x = withPool(10);
        due("pool 1", x.cause(1), -1);
        due("without suspects", x.cause(0), 0);
        for (int i = 0; i < 8; i++) {
            x.suspect(0, i, 1);
        }
        due("without nights all sets", x.cause(0), 36);
        due("ahead of the first", x.causes(-1, 0), -1);
        int k = 0;
        for (int one = 0; one < 8; one++) {
            due("alone", x.causes(k, 0), one);
            due("no second", x.causes(k, 1), -1);
            k++;
        }
        for (int one = 0; one < 8; one++) {
            for (int other = one + 1; other < 8; other++) {
                due("lesser of " + k, x.causes(k, 0), one);
                due("greater of " + k, x.causes(k, 1), other);
                k++;
            }
        }
        due("behind the last", x.causes(36, 0), -1);
        due("third", x.causes(20, 2), -1);
        due("i -1", x.causes(20, -1), -1);
    }

    private static void offByOne() {
        // 2 * (50 - 30) of 500 in one tick: 460, a depth of 46; then 2 * 16: 428, a depth of 42
        int[][] nightAndDue = {{48, 1, 0}, {47, 1, 1}, {46, 1, 1}, {45, 1, 1}, {44, 1, 0}, {43, 2, 1}, {41, 2, 1},
            {40, 2, 0}, {44, 2, 0}};
        for (int[] each : nightAndDue) {
            PoolCoast x = withPool(10);
            x.suspect(0, 30, 2);
            x.night(0, 50, each[0], each[1]);
            due("to " + each[0] + " in " + each[1], x.cause(0), each[2]);
            x.night(0, 30, 30, 100);
            due("with a night at its own depth", x.cause(0), each[2]);
            x.night(0, 90, 90, 1);
            due("with a night that it can't explain", x.cause(0), 0);
        }
    }

    private static void pairsByNumbers() {
        // 0 first: 1000 less 500, then 1 takes 10 * (50 - 40): 400. 1 first would leave 400, then 200
        PoolCoast x = withPool(10);
        x.suspect(0, 0, 5);
        x.suspect(0, 40, 10);
        x.suspect(0, 99, 1);
        x.night(0, 100, 40, 1);
        due("sets", x.cause(0), 3);
        due("1 alone", x.causes(0, 0), 1);
        due("alone", x.causes(0, 1), -1);
        due("0 and", x.causes(1, 0), 0);
        due(".. 1", x.causes(1, 1), 1);
        due("1 and", x.causes(2, 0), 1);
        due(".. 2", x.causes(2, 1), 2);
    }

    private static void neverBelowItsOwn() {
        PoolCoast x = withPool(1);
        x.suspect(0, 30, 50);
        x.night(0, 1200, 30, 1);
        due("at once down to its own", x.cause(0), 1);
        x.night(0, 31, 30, 1);
        due("a unit", x.cause(0), 1);
        x.night(0, 20, 20, 10);
        due("below its own nothing goes", x.cause(0), 1);
        x.night(0, 20, 18, 10);
        due("that is not explained", x.cause(0), 0);
    }

    private static void causesOfPools() {
        PoolCoast x = withPool(10);
        due("no cause yet", x.causes(0, 0), -1);
        due("no look yet", x.look(), -1);
        x.suspect(0, 30, 2);
        due("one", x.cause(0), 1);
        due("one set has no look", x.look(), -1);
        due("no pool 1", x.cause(1), -1);
        due("as it was", x.causes(0, 0), 0);
        x.pool(10, 0, 900, 900, 0, 0, 0);
        due("none of pool 1", x.cause(1), 0);
        due("no set now", x.causes(0, 0), -1);
    }

    private static void looks() {
        PoolCoast x = withPool(100);
        x.suspect(0, 200, 1);
        x.suspect(0, 200, 50);
        x.suspect(0, 250, 50);
        x.night(0, 200, 200, 5);
        due("all that take nothing at 200", x.cause(0), 6);
        // the deepest look tells most apart: the weak crack leaves most, the strong one takes all but 200
        due("the depth", x.look(), 300);
        x.suspect(0, 0, 50);
        due("by the suspects as they were", x.look(), 300);
        PoolCoast y = withPool(2000);
        y.suspect(0, 400, 1);
        y.suspect(0, 500, 50);
        due("without nights", y.cause(0), 3);
        due("no depth tells them apart: the least", y.look(), 10);
        PoolCoast z = withPool(1);
        z.suspect(0, 100, 50);
        z.suspect(0, 150, 50);
        due("two and both", z.cause(0), 3);
        due("150 is the least of those that differ most", z.look(), 150);
    }
}
