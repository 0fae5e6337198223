/** Promises 33 to 36: lease, due, pay, count. */
public final class LeaseTest {
    private static final Check CHECK = new Check();

    public static void main(String[] args) {
        leases();
        dueByDays();
        dueAsKnown();
        wantedHours();
        latePool();
        paying();
        counts();
        CHECK.finish();
    }

    private static void due(String what, long got, long want) {
        CHECK.due(what, got, want);
    }

    private static PoolCoast withPool() {
        PoolCoast x = new PoolCoast();
        x.pool(10, 0, 900, 900, 0, 0, 0);
        return x;
    }

    private static void leases() {
        PoolCoast x = withPool();
        due("pool 1", x.lease(1, 5, 0, 1), -1);
        due("pool -1", x.lease(-1, 5, 0, 1), -1);
        due("coins -1", x.lease(0, -1, 0, 1), -1);
        due("coins 1000", x.lease(0, 1000, 0, 1), -1);
        due("first -1", x.lease(0, 5, -1, 1), -1);
        due("last 100", x.lease(0, 5, 0, 100), -1);
        due("first 100", x.lease(0, 5, 100, 100), -1);
        due("last ahead of first", x.lease(0, 5, 2, 1), -1);
        due("none", x.count(6), 0);
        due("number 0", x.lease(0, 0, 0, 99), 0);
        due("number 1", x.lease(0, 999, 99, 99), 1);
        for (int i = 2; i <= 9; i++) {
            due("number " + i, x.lease(0, 5, 0, 1), i);
        }
        due("eleventh", x.lease(0, 5, 0, 1), -1);
        due("count", x.count(6), 10);
    }

    private static void dueByDays() {
        PoolCoast x = withPool();
        x.lease(0, 7, 1, 2);
        due("hour 0", x.due(0, 0), -1);
        x.pass(6);
        due("known in 0", x.due(0, 0), 0);
        due("now's hour", x.due(0, 1), -1);
        due("known -1", x.due(0, -1), -1);
        due("lease 1", x.due(1, 0), -1);
        due("lease -1", x.due(-1, 0), -1);
        x.pass(288);
        due("in 46", x.due(0, 46), 0);
        due("in 47", x.due(0, 47), 7);
        x.pass(288);
        due("in 70", x.due(0, 70), 7);
        due("in 71", x.due(0, 71), 14);
        due("in 96", x.due(0, 96), 14);
        due("in 97", x.due(0, 97), -1);
        for (int i = 0; i < 48; i++) {
            x.pass(288);
        }
        due("at the end", x.due(0, 2399), -1);
        x.pass(14400 - x.count(0));
        due("at the end itself", x.due(0, 2399), 14);
        due("hour 2400", x.due(0, 2400), -1);
    }

    private static void dueAsKnown() {
        PoolCoast x = withPool();
        x.lease(0, 7, 0, 9);
        RulesTest.tell(x, "wave>200 and day=1");
        x.pass(288);
        due("two days", x.due(0, 47), 14);
        for (int h = 24; h < 41; h++) {
            x.wave(h, 300);
        }
        x.pass(1);
        due("not yet known", x.due(0, 47), 14);
        x.pass(5);
        due("17 hours of day 1 closed", x.due(0, 48), 7);
        due("as known in 47", x.due(0, 47), 14);
        x.wave(30, 0);
        x.pass(6);
        due("16 hours closed", x.due(0, 49), 14);
        due("as known in 48", x.due(0, 48), 7);
    }

    private static void wantedHours() {
        PoolCoast x = withPool();
        x.lease(0, 3, 0, 0);
        RulesTest.tell(x, "hour<10");
        x.pass(144);
        x.set(2, 14);
        due("14 of 14", x.due(0, 23), 3);
        x.set(2, 15);
        due("14 of 15", x.due(0, 23), 0);
    }

    private static void latePool() {
        PoolCoast x = new PoolCoast();
        x.pass(3);
        x.pool(10, 0, 900, 900, 0, 0, 0);
        x.pass(3);
        x.pool(10, 0, 900, 900, 0, 0, 0);
        x.lease(0, 3, 0, 1);
        x.lease(1, 3, 0, 1);
        x.pass(288);
        due("there from the first hour on", x.due(0, 47), 6);
        due("not from the first hour on", x.due(1, 47), 3);
    }

    private static void paying() {
        PoolCoast x = withPool();
        x.lease(0, 10, 0, 99);
        due("hour 0", x.pay(0), 0);
        due("lease 1", x.pay(1), -1000000);
        due("lease -1", x.pay(-1), -1000000);
        x.pass(144);
        due("day 0", x.pay(0), 10);
        due("again", x.pay(0), 0);
        due("paid", x.count(20), 10);
        x.pass(288);
        due("two days more", x.pay(0), 20);
        RulesTest.tell(x, "test>100");
        x.test(0, 0, 101);
        x.test(0, 24, 5);
        due("known a little later", x.pay(0), 0);
        x.pass(6);
        due("day 0 was closed", x.pay(0), -10);
        due("paid less", x.count(20), 20);
        due("due", x.due(0, 72), 20);
    }

    private static void counts() {
        PoolCoast x = withPool();
        due("what -1", x.count(-1), -1);
        due("what 11", x.count(11), -1);
        due("what 19", x.count(19), -1);
        due("no lease", x.count(20), -1);
        x.lease(0, 3, 0, 1);
        due("paid", x.count(20), 0);
        due("no second lease", x.count(21), -1);
        due("what 30", x.count(30), -1);
        due("far", x.count(Integer.MAX_VALUE), -1);
        x.pass(77);
        x.turn(5, 5);
        x.turn(15, 5);
        x.wave(1, 1);
        x.feed(0, 0, 0, 0, 0);
        x.end(3);
        due("now", x.count(0), 77);
        due("turns", x.count(1), 2);
        due("rows", x.count(2), 1);
        due("pools", x.count(3), 1);
        due("rules", x.count(4), 0);
        due("tests", x.count(5), 0);
        due("leases", x.count(6), 1);
        due("tape", x.count(7), 3);
    }
}
