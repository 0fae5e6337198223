/** The end: nothing is told or done any more but looks. */
public final class EndTest {
    private static final Check CHECK = new Check();

    public static void main(String[] args) {
        PoolCoast x = new PoolCoast();
        x.pool(10, 0, 100, 100, 0, 0, 4);
        x.dirt(0, 1, 0);
        x.suspect(0, 1, 1);
        x.lease(0, 1, 98, 99);
        x.turn(14000, 5);
        x.wave(3, 7);
        for (int i = 0; i < 50; i++) {
            x.pass(288);
        }
        nothingIsToldOrDone(x);
        looks(x);
        CHECK.finish();
    }

    private static void due(String what, long got, long want) {
        CHECK.due(what, got, want);
    }

    private static void due(String what, boolean got, boolean want) {
        CHECK.due(what, got, want);
    }

    private static void nothingIsToldOrDone(PoolCoast x) {
        due("now", x.count(0), 14400);
        due("turn", x.turn(14020, 5), -1);
        due("wave", x.wave(2399, 5), -1);
        due("set", x.set(0, 5), -1);
        due("pool", x.pool(10, 0, 100, 100, 0, 0, 50), -1);
        due("dirt", x.dirt(0, 1, 1), false);
        due("crack", x.crack(0, 1, 1), -1);
        due("mend", x.mend(0), -1);
        due("sluice", x.sluice(0, true), false);
        due("pump", x.pump(0, 1), -2000);
        due("clean", x.clean(0), -1);
        due("pass", x.pass(1), -1);
        due("rules", x.rules(), -1);
        due("test", x.test(0, 0, 0), -1);
        due("free", x.free(0, 3, true), false);
        due("plan", x.plan(1, 99, 1, 1, 0), -1);
        due("race", x.race(0, 99, 0, 1, 0, 1200, 500), -1);
        due("night", x.night(0, 1, 1, 1), -1);
        due("suspect", x.suspect(0, 1, 1), -1);
        due("lease", x.lease(0, 1, 0, 1), -1);
        due("pay", x.pay(0), -1000000);
        int[] counts = {14400, 1, 1, 1, 0, 0, 1, 0, 100, 150, 8};
        for (int what = 0; what < counts.length; what++) {
            due("count " + what, x.count(what), counts[what]);
        }
    }

    private static void looks(PoolCoast x) {
        due("sea", x.sea(14399), 5);
        due("waved", x.waved(3, 2399), 7);
        due("about", x.about(0, 3), 100);
        due("hour 2399", x.hour(0, 2399, 2), 100);
        due("hour 2400", x.hour(0, 2400, 2), -1000);
        due("closed", x.closed(0, 2399, 2399), 0);
        due("open", x.open(0, 99, 2399), 24);
        due("low", x.low(0, 99), 0);
        due("planned", x.planned(0), -1);
        due("cause", x.cause(0), 1);
        due("causes", x.causes(0, 0), 0);
        due("look", x.look(), -1);
        due("due", x.due(0, 2399), 2);
        due("feed is not told of the end", x.feed(0, 0, 0, 0, 0), 20);
        due("nor is end", x.end(3), 3);
    }
}
