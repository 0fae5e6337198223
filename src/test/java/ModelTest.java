/** All promises: made-up runs of 512 calls, each answer compared with PlainCoast's. */
public final class ModelTest {
    private static final int RUNS = 240;
    private static final int CALLS = 512;
    private static final int[] FAR = {Integer.MIN_VALUE, Integer.MAX_VALUE, -1, 0, 1 << 30, -100000, 100000};
    private static final String[] WORDS = {"depth", "sea", "wave", "age", "dirt", "hour", "day", "test"};
    private static final String[] SIGNS = {"<", "<=", "=", ">=", ">"};

    private final Check check;
    private final int run;
    private final PoolCoast x = new PoolCoast();
    private final PlainCoast y = new PlainCoast();
    private long state;
    private int lastTurn;
    private boolean wild;
    private boolean hasty;

    private ModelTest(Check check, int run) {
        this.check = check;
        this.run = run;
        state = run * 7919L + 12345;
        wild = run % 4 == 3;
        hasty = run % 3 == 0;
    }

    public static void main(String[] args) {
        Check check = new Check();
        for (int run = 0; run < RUNS; run++) {
            new ModelTest(check, run).go();
        }
        check.finish();
    }

    /** A number below n, from a row of its own: the same in every run of the test. */
    private int below(int n) {
        state = state * 6364136223846793005L + 1442695040888963407L;
        return (int) ((state >>> 33) % n);
    }

    private int from(int least, int most) {
        int rare = below(wild ? 12 : 120);
        if (rare == 0) {
            return FAR[below(FAR.length)];
        }
        if (rare == 1) {
            return below(2) == 0 ? least - 1 : most + 1;
        }
        if (rare == 2) {
            return below(2) == 0 ? least : most;
        }
        return least + below(most - least + 1);
    }

    private void go() {
        begin();
        for (int i = 0; i < CALLS - 60; i++) {
            call(below(100));
        }
    }

    private void begin() {
        for (int i = 0; i < 40 && below(50) != 0; i++) {
            turn();
        }
        int pools = below(5) + 1;
        for (int i = 0; i < pools; i++) {
            pool();
        }
    }

    private void call(int kind) {
        if (kind < 8) {
            pass();
        } else if (kind < 14) {
            turn();
        } else if (kind < 40) {
            act(kind - 14);
        } else if (kind < 58) {
            ask(below(10));
        } else if (kind < 74) {
            rulesAndTests(below(10));
        } else if (kind < 84) {
            planning(below(10));
        } else if (kind < 92) {
            nights(below(10));
        } else {
            leases(below(10));
        }
    }

    private void same(String what, long got, long want) {
        check.due("run " + run + ": " + what, got, want);
    }

    private void same(String what, boolean got, boolean want) {
        check.due("run " + run + ": " + what, got, want);
    }

    private int now() {
        return y.count(0);
    }

    private int anyPool() {
        int n = y.count(3);
        return n == 0 ? from(0, 3) : from(0, n - 1);
    }

    /** An hour near NOW's, or one of those that are over. */
    private int anyHour() {
        int h = now() / 6;
        switch (below(4)) {
            case 0: return from(0, Math.max(1, h));
            case 1: return from(h, h + 240);
            default: return from(Math.max(0, h - 24), h + 24);
        }
    }

    private void pass() {
        int ticks = hasty ? from(1, 288) : from(1, below(2) == 0 ? 7 : 150);
        same("pass " + ticks, x.pass(ticks), y.pass(ticks));
    }

    private void turn() {
        int tick = lastTurn + from(20, 50);
        int level = y.count(1) % 2 == 0 ? from(-100, 200) : from(100, 500);
        if (below(20) == 0) {
            tick = lastTurn + from(6, 100);
            level = from(-500, 900);
        }
        int size = y.turn(tick, level);
        same("turn " + tick + " " + level, x.turn(tick, level), size);
        if (size > 0) {
            lastTurn = tick;
        }
    }

    private void pool() {
        int area = below(3) == 0 ? from(1, 20) : from(1, 2000);
        int floor = from(-100, 300);
        int wall = floor + from(1, 300);
        int sill = floor + below(Math.max(1, Math.min(1000, wall - floor + 2)));
        int sluice = from(0, 100);
        int over = from(0, 100);
        int depth = below(Math.max(1, Math.min(1000, wall - floor + 2)));
        same("pool " + area + " " + floor + " " + wall + " " + sill + " " + depth,
            x.pool(area, floor, wall, sill, sluice, over, depth), y.pool(area, floor, wall, sill, sluice, over, depth));
    }

    private void act(int kind) {
        int p = anyPool();
        if (kind < 1) {
            pool();
        } else if (kind < 7) {
            int hour = anyHour();
            int height = from(0, below(2) == 0 ? 500 : 100);
            same("wave " + hour + " " + height, x.wave(hour, height), y.wave(hour, height));
        } else if (kind < 9) {
            int what = from(0, 2);
            int v = what == 2 ? from(1, 24) : from(0, 500);
            same("set " + what + " " + v, x.set(what, v), y.set(what, v));
        } else if (kind < 12) {
            int sand = from(0, 20);
            int weed = from(0, 20);
            same("dirt " + p, x.dirt(p, sand, weed), y.dirt(p, sand, weed));
        } else if (kind < 15) {
            int level = y.about(p, 0) + from(-40, 40);
            int rate = from(1, 50);
            same("crack " + p + " " + level + " " + rate, x.crack(p, level, rate), y.crack(p, level, rate));
        } else if (kind < 16) {
            same("mend " + p, x.mend(p), y.mend(p));
        } else if (kind < 20) {
            boolean open = below(2) == 0;
            same("sluice " + p + " " + open, x.sluice(p, open), y.sluice(p, open));
        } else if (kind < 24) {
            int units = below(3) == 0 ? 0 : from(-1000, 1000);
            same("pump " + p + " " + units, x.pump(p, units), y.pump(p, units));
        } else {
            same("clean " + p, x.clean(p), y.clean(p));
        }
    }

    private void ask(int kind) {
        int p = anyPool();
        if (kind < 3) {
            int what = from(0, 7);
            same("about " + p + " " + what, x.about(p, what), y.about(p, what));
        } else if (kind < 7) {
            int hour = anyHour();
            int what = from(0, 2);
            same("hour " + p + " " + hour + " " + what, x.hour(p, hour, what), y.hour(p, hour, what));
        } else if (kind < 8) {
            int tick = from(0, below(2) == 0 ? 14399 : lastTurn + 10);
            same("sea " + tick, x.sea(tick), y.sea(tick));
        } else if (kind < 9) {
            int hour = anyHour();
            int known = anyHour();
            same("waved " + hour + " " + known, x.waved(hour, known), y.waved(hour, known));
        } else {
            int what = below(2) == 0 ? from(0, 10) : from(20, 29);
            same("count " + what, x.count(what), y.count(what));
        }
    }

    private void rulesAndTests(int kind) {
        int p = anyPool();
        if (kind < 2) {
            tell(text());
        } else if (kind < 4) {
            int hour = from(0, now() / 6);
            int result = from(0, below(3) == 0 ? 9999 : 300);
            same("test " + p + " " + hour + " " + result, x.test(p, hour, result), y.test(p, hour, result));
        } else if (kind < 7) {
            int hour = anyHour();
            int known = anyHour();
            same("closed " + p + " " + hour + " " + known, x.closed(p, hour, known), y.closed(p, hour, known));
        } else {
            int day = Math.floorDiv(anyHour(), 24);
            int known = anyHour();
            same("open " + p + " " + day + " " + known, x.open(p, day, known), y.open(p, day, known));
        }
    }

    private void tell(String text) {
        if (below(30) == 0) {
            same("end " + -1, x.end(-1), y.end(-1));
            same("end more", x.end(y.count(7) + 1), y.end(y.count(7) + 1));
            same("feed", x.feed(-1, 1 << 31, 0x20202020, 5, 77), y.feed(-1, 1 << 31, 0x20202020, 5, 77));
        }
        int clear = below(4) == 0 ? y.count(7) : 0;
        same("end " + clear, x.end(clear), y.end(clear));
        for (int i = 0; i < text.length(); i += 20) {
            int[] five = new int[5];
            for (int k = 0; k < 20; k++) {
                int c = i + k < text.length() ? text.charAt(i + k) : 0;
                five[k / 4] = five[k / 4] << 8 | c;
            }
            same("feed", x.feed(five[0], five[1], five[2], five[3], five[4]),
                y.feed(five[0], five[1], five[2], five[3], five[4]));
        }
        int end = Math.min(y.count(7), clear + text.length());
        same("end " + end, x.end(end), y.end(end));
        same("rules of " + text, x.rules(), y.rules());
    }

    private String text() {
        StringBuilder b = new StringBuilder();
        int clauses = below(12) == 0 ? 7 + below(4) : below(4);
        for (int i = 0; i < clauses; i++) {
            b.append(i == 0 ? "" : ";").append(blank());
            part(b, below(3));
        }
        if (below(25) == 0) {
            b.insert(0, "(".repeat(8 + below(4))).append(")".repeat(8 + below(4)));
        }
        int changes = below(3) == 0 ? 1 + below(2) : 0;
        for (int i = 0; i < changes && b.length() > 0; i++) {
            int place = below(b.length());
            switch (below(3)) {
                case 0:
                    b.deleteCharAt(place);
                    break;
                case 1:
                    b.insert(place, " (;9<=)nadx\u00e9Z".charAt(below(13)));
                    break;
                default:
                    b.setLength(place);
            }
        }
        return b.toString();
    }

    private void part(StringBuilder b, int depth) {
        int kind = depth == 0 ? 0 : below(4);
        if (kind == 1) {
            b.append("not ");
            part(b, depth - 1);
        } else if (kind == 2) {
            b.append("(").append(blank());
            part(b, depth - 1);
            b.append(")").append(blank());
        } else if (kind == 3) {
            part(b, depth - 1);
            b.append(" ").append(below(2) == 0 ? "and " : "or ");
            part(b, depth - 1);
        } else {
            String word = WORDS[below(WORDS.length)];
            b.append(word).append(blank()).append(SIGNS[below(5)]).append(blank()).append(number(word)).append(blank());
        }
    }

    private int number(String word) {
        switch (word) {
            case "hour": return below(24);
            case "day": return below(60);
            case "dirt": return below(60);
            case "age": return below(40);
            default: return below(200) == 0 ? below(20000) : below(250);
        }
    }

    private String blank() {
        return " ".repeat(Math.max(0, below(4) - 2));
    }

    private void planning(int kind) {
        int p = anyPool();
        int today = now() / 144;
        if (kind < 2) {
            int day = from(today, today + 6);
            boolean is = below(3) > 0;
            same("free " + p + " " + day + " " + is, x.free(p, day, is), y.free(p, day, is));
        } else if (kind < 3) {
            int day = below(2) == 0 ? from(0, 99) : from(today, today + 5);
            same("low " + p + " " + day, x.low(p, day), y.low(p, day));
        } else if (kind < 7) {
            plan(today);
        } else {
            race(p, today);
        }
    }

    private void plan(int today) {
        int pools = below(5) == 0 ? from(0, 4095) : 1 + below((1 << Math.max(1, y.count(3))) - 1 + below(2));
        int day = from(today + 1, today + (below(4) == 0 ? 11 : 3));
        int days = from(1, 6);
        int gangs = from(1, 3);
        int bound = from(0, below(2) == 0 ? 30 : 999);
        same("plan " + pools + " " + day + " " + days + " " + gangs + " " + bound,
            x.plan(pools, day, days, gangs, bound), y.plan(pools, day, days, gangs, bound));
        for (int p = -1; p <= 11; p++) {
            same("planned " + p, x.planned(p), y.planned(p));
        }
    }

    private void race(int p, int today) {
        int day = from(today, today + 9);
        int from = from(0, 23);
        int hours = from(1, 6);
        int low = from(0, 150);
        int high = low + from(-5, 200);
        int wave = from(50, 500);
        same("race " + p + " " + day + " " + from + " " + hours + " " + low + " " + high + " " + wave,
            x.race(p, day, from, hours, low, high, wave), y.race(p, day, from, hours, low, high, wave));
    }

    private void nights(int kind) {
        int p = anyPool();
        if (kind < 3) {
            int depth = from(0, 200);
            int rate = from(1, 50);
            same("suspect " + p + " " + depth + " " + rate, x.suspect(p, depth, rate), y.suspect(p, depth, rate));
        } else if (kind < 5) {
            int a = from(0, 300);
            int ticks = from(1, 100);
            int b = a >= 0 && a < 5000 && ticks > 0 && ticks < 200 ? y.toldByOne(p, below(4), a, ticks) : 7;
            b += from(-1, 1);
            same("night " + p + " " + a + " " + b + " " + ticks, x.night(p, a, b, ticks), y.night(p, a, b, ticks));
        } else {
            same("cause " + p, x.cause(p), y.cause(p));
            for (int k = -1; k < 4; k++) {
                int i = from(0, 1);
                same("causes " + k + " " + i, x.causes(k, i), y.causes(k, i));
            }
            same("look", x.look(), y.look());
        }
    }

    private void leases(int kind) {
        int lease = Math.max(1, y.count(6));
        if (kind < 2) {
            int p = anyPool();
            int coins = from(0, 999);
            int first = from(0, 60);
            int last = first + from(-1, 60);
            same("lease " + p + " " + first + " " + last, x.lease(p, coins, first, last), y.lease(p, coins, first, last));
        } else if (kind < 6) {
            int l = from(0, lease - 1);
            int known = from(0, Math.max(0, now() / 6 - 1));
            same("due " + l + " " + known, x.due(l, known), y.due(l, known));
        } else {
            int l = from(0, lease - 1);
            same("pay " + l, x.pay(l), y.pay(l));
            same("paid " + l, x.count(20 + l), y.count(20 + l));
        }
    }
}
