/** The edges that the terms name for OPEN DAYS, leases and what is counted (promises 22 and 33 to 36). */
public final class LeaseEdgeTest {
    private static final Check CHECK = new Check();

    public static void main(String[] args) {
        openByHours();
        fullOfLeases();
        firstAndLastDays();
        dueByTheHour();
        poolsThatCame();
        payingByTheHour();
        payingBack();
        leasesApart();
        lastDayOfAll();
        countsAtTheEdges();
        CHECK.finish();
    }

    private static void due(String what, long got, long want) {
        CHECK.due(what, got, want);
    }

    private static PoolCoast withPool() {
        PoolCoast x = new PoolCoast();
        x.pool(10, 0, 900, 900, 0, 0, 0);
        return x;
    }

    /** Of each day so many hours are open as the rules leave; the day is if n or more are. */
    private static void openByHours() {
        for (int hours : new int[] {0, 1, 7, 8, 9, 23, 24}) {
            PoolCoast x = withPool();
            x.lease(0, 1, 0, 0);
            RulesTest.tell(x, "hour>=" + hours);
            x.pass(144);
            due("hours open", x.open(0, 0, 23), hours);
            due("n 8 of " + hours, x.due(0, 23), hours >= 8 ? 1 : 0);
            for (int n : new int[] {1, 7, 8, 9, 23, 24}) {
                x.set(2, n);
                due("n " + n + " of " + hours, x.due(0, 23), hours >= n ? 1 : 0);
            }
        }
    }

    private static void fullOfLeases() {
        PoolCoast x = withPool();
        for (int i = 0; i < 9; i++) {
            due("lease", x.lease(0, i, 0, 0), i);
        }
        due("the tenth with too many coins", x.lease(0, 1000, 0, 0), -1);
        due("nine", x.count(6), 9);
        due("lease 9 is not there yet", x.count(29), -1);
        due("the tenth", x.lease(0, 999, 0, 0), 9);
        due("the eleventh", x.lease(0, 1, 0, 0), -1);
        due("ten", x.count(6), 10);
        x.pass(144);
        due("due of the tenth", x.due(9, 23), 999);
        due("due of no coins", x.due(0, 23), 0);
        due("pay the tenth", x.pay(9), 999);
        due("pay lease 10", x.pay(10), -1000000);
        due("paid of the tenth", x.count(29), 999);
        due("no lease 10", x.count(30), -1);
    }

    private static void firstAndLastDays() {
        PoolCoast x = withPool();
        x.lease(0, 1, 0, 0);
        x.lease(0, 1, 1, 1);
        x.lease(0, 1, 0, 1);
        x.lease(0, 1, 2, 99);
        x.lease(0, 1, 99, 99);
        x.lease(0, 1, 0, 99);
        int[][] dues = {{1, 0, 1, 0, 0, 1}, {1, 1, 2, 0, 0, 2}, {1, 1, 2, 1, 0, 3}, {1, 1, 2, 2, 0, 4}};
        for (int day = 0; day < dues.length; day++) {
            x.pass(144);
            for (int l = 0; l < dues[day].length; l++) {
                due("lease " + l + " behind day " + day, x.due(l, 24 * day + 23), dues[day][l]);
            }
        }
        due("last ahead of first", x.lease(0, 1, 3, 2), -1);
        due("of a day that is over", x.lease(0, 5, 1, 2), 6);
        due("due at once", x.due(6, 95), 10);
    }

    private static void dueByTheHour() {
        PoolCoast x = withPool();
        x.lease(0, 1, 0, 99);
        due("in hour 0 none is over", x.due(0, 0), -1);
        due("hour -1", x.due(0, -1), -1);
        x.pass(5);
        due("in the last tick of hour 0", x.due(0, 0), -1);
        x.pass(1);
        due("in hour 1", x.due(0, 0), 0);
        due("now's hour", x.due(0, 1), -1);
        Coasts.passTo(x, 143);
        due("as known in 22", x.due(0, 22), 0);
        due("now's hour, 23", x.due(0, 23), -1);
        x.pass(1);
        due("as known in 22 still", x.due(0, 22), 0);
        due("as known in 23", x.due(0, 23), 1);
        Coasts.passTo(x, 288);
        due("as known in 46", x.due(0, 46), 1);
        due("as known in 47", x.due(0, 47), 2);
    }

    /** A pool that came in a day's first hour was there from that hour on; one of the next hour was not. */
    private static void poolsThatCame() {
        int[] ticks = {0, 5, 6, 143, 144, 149, 150};
        int[] days = {2, 2, 1, 1, 1, 1, 0};
        for (int i = 0; i < ticks.length; i++) {
            PoolCoast x = Coasts.passTo(new PoolCoast(), ticks[i]);
            x.pool(10, 0, 900, 900, 0, 0, 0);
            x.lease(0, 1, 0, 1);
            Coasts.passTo(x, 288);
            due("came in tick " + ticks[i], x.due(0, 47), days[i]);
            due("open on day 0, came in tick " + ticks[i], x.open(0, 0, 47), ticks[i] < 6 ? 24 : -1);
            due("open on day 1, came in tick " + ticks[i], x.open(0, 1, 47), ticks[i] < 150 ? 24 : -1);
        }
    }

    private static void payingByTheHour() {
        PoolCoast x = withPool();
        x.lease(0, 10, 0, 1);
        for (int tick : new int[] {0, 5, 6, 143}) {
            Coasts.passTo(x, tick);
            due("to pay at tick " + tick, x.pay(0), 0);
        }
        x.pass(1);
        due("day 0 is over", x.pay(0), 10);
        due("paid", x.count(20), 10);
        due("paid already", x.pay(0), 0);
        Coasts.passTo(x, 287);
        due("a tick ahead of day 2", x.pay(0), 0);
        x.pass(1);
        due("day 1 is over", x.pay(0), 10);
        Coasts.passTo(x, 432);
        due("the lease is over", x.pay(0), 0);
        due("paid all together", x.count(20), 20);
        due("not paid twice", x.due(0, 71), 20);
    }

    private static void payingBack() {
        PoolCoast x = withPool();
        x.lease(0, 999, 0, 99);
        Coasts.passTo(x, 288);
        due("two days", x.pay(0), 1998);
        x.set(2, 24);
        RulesTest.tell(x, "hour=5");
        due("not yet known", x.pay(0), 0);
        x.pass(6);
        due("neither was open", x.pay(0), -1998);
        due("paid nothing", x.count(20), 0);
        due("as known ahead of it", x.due(0, 47), 1998);
        x.set(2, 23);
        due("n as it is now", x.pay(0), 1998);
        due("paid again", x.count(20), 1998);
        Coasts.passTo(x, 14399);
        due("ninety-nine days", x.pay(0), 999 * 97);
        x.pass(1);
        due("nothing at the end", x.pay(0), -1000000);
        due("due at the end", x.due(0, 2399), 999 * 100);
        due("paid at the end", x.count(20), 999 * 99);
    }

    private static void leasesApart() {
        PoolCoast x = withPool();
        x.pool(10, 0, 900, 900, 0, 0, 30);
        RulesTest.tell(x, "depth=30 and day=1");
        x.lease(0, 1, 0, 9);
        x.lease(1, 10, 0, 9);
        x.lease(0, 100, 1, 9);
        Coasts.passTo(x, 432);
        due("the third", x.pay(2), 200);
        due("the second", x.pay(1), 20);
        due("paid of the first", x.count(20), 0);
        due("paid of the second", x.count(21), 20);
        due("paid of the third", x.count(22), 200);
        due("the first", x.pay(0), 3);
        due("the second again", x.pay(1), 0);
    }

    private static void lastDayOfAll() {
        PoolCoast x = Coasts.passTo(withPool(), 14399);
        due("told in the last tick", x.lease(0, 7, 98, 99), 0);
        due("day 98", x.due(0, 2398), 7);
        due("hour 2399 is now's", x.due(0, 2399), -1);
        due("pay day 98", x.pay(0), 7);
        x.pass(1);
        due("day 99", x.due(0, 2399), 14);
        due("day 98 as ahead", x.due(0, 2398), 7);
        due("hour 2400", x.due(0, 2400), -1);
        due("no pay at the end", x.pay(0), -1000000);
        due("paid as ahead", x.count(20), 7);
    }

    private static void countsAtTheEdges() {
        PoolCoast x = withPool();
        for (int what : new int[] {Integer.MIN_VALUE, -1, 11, 12, 19, 20, 29, 30, Integer.MAX_VALUE}) {
            due("count " + what, x.count(what), -1);
        }
        x.set(0, 1);
        x.set(1, 2);
        x.set(2, 3);
        due("WORST", x.count(8), 1);
        due("STORM", x.count(9), 2);
        due("n", x.count(10), 3);
        due("pools", x.count(3), 1);
        x.lease(0, 1, 0, 0);
        due("paid of lease 0", x.count(20), 0);
        due("no lease 1", x.count(21), -1);
        due("leases", x.count(6), 1);
    }
}
