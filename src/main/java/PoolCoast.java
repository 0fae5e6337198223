import java.util.Arrays;

/** A coast of pools filled by the sea; ../shared/DOC.md tells what each call promises. */
public final class PoolCoast {
    public static final int NONE = -1;

    private static final int TICKS = 14400;
    private static final int HOUR_TICKS = 6;
    private static final int DAY_HOURS = 24;
    private static final int DAY_TICKS = 144;
    private static final int HOURS = 2400;
    private static final int DAYS = 100;
    private static final int HOURS_AHEAD = 240;

    private static final int NO_LEVEL = -1000;
    private static final int NO_PUMP = -2000;
    private static final int NO_COINS = -1000000;
    private static final int NO_RACE = -2;

    private static final int POOLS_MOST = 11;
    private static final int RULES_MOST = 10;
    private static final int LEASES_MOST = 10;
    private static final int DEPTH_MOST = 1200;
    private static final int PASS_MOST = 288;
    private static final int CLEAN_DEPTH = 5;
    private static final int RACE_DAYS = 9;

    // The WORDs of a text, in the order of Reader.nameOf; a ruling's facts stand in the same order.
    private static final int DEPTH = 0;
    private static final int SEA = 1;
    private static final int WAVE = 2;
    private static final int AGE = 3;
    private static final int DIRT = 4;
    private static final int HOUR = 5;
    private static final int DAY = 6;
    private static final int TEST = 7;
    private static final int FACTS = 8;
    private static final int AND = 8;
    private static final int OR = 9;
    private static final int NOT = 10;
    private static final int WORDS = 11;

    private static final int LESS = 0;
    private static final int AT_MOST = 1;
    private static final int EQUAL = 2;
    private static final int AT_LEAST = 3;
    private static final int MORE = 4;

    // An entry of a ruling's code is AND, OR, NOT, CLAUSE_END, or a word, a sign and a number:
    // COMPARE and word * WORD_STEP and sign * SIGN_STEP and number.
    private static final int CLAUSE_END = 11;
    private static final int COMPARE = 100;
    private static final int SIGN_STEP = 10000;
    private static final int WORD_STEP = 5 * SIGN_STEP;

    private final Tides tides = new Tides();
    private final Waves waves = new Waves();
    private final Pool[] pools = new Pool[POOLS_MOST];
    private final Reader reader = new Reader();
    private final Ruling[] rulings = new Ruling[RULES_MOST];
    private final Samples samples = new Samples();
    private final Lease[] leases = new Lease[LEASES_MOST];
    private final Planner planner = new Planner();
    private final int[] facts = new int[FACTS];
    // Of the pool whose cause was sought last; it holds the sets that were found.
    private Evidence soughtLast;
    private int poolCount;
    private int rulingCount;
    private int leaseCount;
    private int now;
    private int hoursWanted = 8;
    // Counts all that alters what is to come: what was foretold at another count is foretold anew.
    private int changes;

    public PoolCoast() {
    }

    public int turn(int tick, int level) {
        if (atEnd() || !tides.takes(tick, level)) {
            return NONE;
        }
        changes++;
        return tides.add(tick, level);
    }

    public int sea(int tick) {
        return within(tick, 0, TICKS - 1) ? tides.levelAt(tick) : NO_LEVEL;
    }

    public int wave(int hour, int height) {
        if (atEnd() || waves.size >= Waves.MOST || !isHour(hour) || hour > hourNow() + HOURS_AHEAD
                || !within(height, 0, 500)) {
            return NONE;
        }
        changes++;
        return waves.add(hour, height, hourNow());
    }

    public int waved(int hour, int known) {
        return isHour(hour) && isHour(known) ? waves.heightOf(hour, known) : NONE;
    }

    public int set(int what, int v) {
        if (atEnd() || !within(what, 0, 2) || !within(v, what == 2 ? 1 : 0, what == 2 ? DAY_HOURS : 500)) {
            return NONE;
        }
        int before = settingOf(what);
        changes++;
        switch (what) {
            case 0:
                waves.worst = v;
                break;
            case 1:
                waves.storm = v;
                break;
            default:
                hoursWanted = v;
        }
        return before;
    }

    public int pool(int area, int floor, int wall, int sill, int sluice, int over, int depth) {
        boolean placed = within(floor, -300, 800) && wall > floor && wall <= 900 && within(sill, floor, wall)
                && within(depth, 0, wall - floor);
        if (atEnd() || poolCount >= pools.length || !placed || !within(area, 1, 2000)
                || !within(sluice, 0, 100) || !within(over, 0, 100)) {
            return NONE;
        }
        Basin basin = new Basin(area, floor, wall, sill, sluice, over);
        pools[poolCount] = new Pool(basin, poolCount, depth, hourNow());
        poolCount++;
        return poolCount - 1;
    }

    public boolean dirt(int pool, int sand, int weed) {
        Pool p = poolAt(pool);
        if (atEnd() || p == null || !within(sand, 0, 20) || !within(weed, 0, 20)) {
            return false;
        }
        changes++;
        p.basin.sand = sand;
        p.basin.weed = weed;
        return true;
    }

    public int crack(int pool, int level, int rate) {
        Pool p = poolAt(pool);
        if (atEnd() || p == null || !p.basin.takesCrack(level, rate)) {
            return NONE;
        }
        changes++;
        return p.basin.addCrack(level, rate);
    }

    public int mend(int pool) {
        Pool p = poolAt(pool);
        if (atEnd() || p == null) {
            return NONE;
        }
        int before = p.basin.crackCount;
        changes++;
        p.basin.crackCount = 0;
        return before;
    }

    public boolean sluice(int pool, boolean open) {
        Pool p = poolAt(pool);
        if (atEnd() || p == null || p.basin.isOpen == open) {
            return false;
        }
        changes++;
        p.basin.isOpen = open;
        return true;
    }

    public int pump(int pool, int units) {
        Pool p = poolAt(pool);
        if (atEnd() || p == null || !within(units, -1000, 1000)) {
            return NO_PUMP;
        }
        int before = p.basin.pumping;
        changes++;
        p.basin.pumping = units;
        return before;
    }

    public int clean(int pool) {
        Pool p = poolAt(pool);
        if (atEnd() || p == null || p.water.depthIn(p.basin) > CLEAN_DEPTH) {
            return NONE;
        }
        int before = p.water.dirt;
        changes++;
        p.water.dirt = 0;
        return before;
    }

    public int pass(int ticks) {
        if (!within(ticks, 1, PASS_MOST) || ticks > TICKS - now) {
            return NONE;
        }
        changes++;
        for (int i = 0; i < ticks; i++) {
            for (int p = 0; p < pools.length; p++) {
                Pool each = pools[p];
                if (each != null) {
                    each.step(each.water, now, tides, waves);
                }
            }
            now++;
        }
        return now;
    }

    public int about(int pool, int what) {
        Pool p = poolAt(pool);
        if (p == null) {
            return NO_LEVEL;
        }
        switch (what) {
            case 0: return p.basin.floor + p.water.depthIn(p.basin);
            case 1: return p.water.units;
            case 2: return p.water.ageInHours();
            case 3: return p.water.dirt;
            case 4: return p.basin.isOpen ? 1 : 0;
            case 5: return p.basin.crackCount;
            case 6: return p.water.pumped;
            case 7: return p.basin.area;
            default: return NO_LEVEL;
        }
    }

    public int hour(int pool, int hour, int what) {
        Pool p = poolAt(pool);
        if (p == null || !within(what, 0, 2) || !tells(p, hour)) {
            return NO_LEVEL;
        }
        switch (what) {
            case 0: return at(p.levels, hour);
            case 1: return at(p.ages, hour);
            default: return at(p.dirts, hour);
        }
    }

    public int feed(int a, int b, int c, int d, int e) {
        if (reader.length > Reader.TAPE_MOST - 20) {
            return NONE;
        }
        reader.append(a);
        reader.append(b);
        reader.append(c);
        reader.append(d);
        reader.append(e);
        return reader.length;
    }

    public int end(int n) {
        if (n < 0 || n > reader.length) {
            return NONE;
        }
        reader.length = n;
        return n;
    }

    public int rules() {
        if (atEnd() || rulingCount >= rulings.length) {
            return NONE;
        }
        int fault = reader.read();
        reader.length = 0;
        if (fault != 0) {
            return -2 - fault;
        }
        rulings[rulingCount] = new Ruling(reader.code, reader.size, hourNow());
        rulingCount++;
        return reader.clauses;
    }

    public int test(int pool, int hour, int result) {
        if (atEnd() || samples.size >= Samples.MOST || poolAt(pool) == null || !within(hour, 0, hourNow())
                || !within(result, 0, 9999)) {
            return NONE;
        }
        return samples.add(pool, hour, result, hourNow());
    }

    public int closed(int pool, int hour, int known) {
        Pool p = poolAt(pool);
        if (p == null || !isHour(known) || !tells(p, hour)) {
            return NONE;
        }
        return closingClause(p, hour, known);
    }

    public int open(int pool, int day, int known) {
        Pool p = poolAt(pool);
        if (p == null || !isDay(day) || !isHour(known) || !tells(p, day * DAY_HOURS)
                || !tells(p, day * DAY_HOURS + DAY_HOURS - 1)) {
            return NONE;
        }
        return openHours(p, day, known);
    }

    public boolean free(int pool, int day, boolean is) {
        Pool p = poolAt(pool);
        int wish = is ? 1 : 0;
        if (atEnd() || p == null || !isDay(day) || at(p.freeDays, day) == wish) {
            return false;
        }
        put(p.freeDays, day, wish);
        return true;
    }

    public int low(int pool, int day) {
        Pool p = poolAt(pool);
        if (p == null || !isDay(day)) {
            return NONE;
        }
        return tides.lowByDay(day, p.basin.floor) ? 1 : 0;
    }

    public int plan(int pools, int day, int days, int gangs, int bound) {
        boolean counted = within(days, 1, Planner.DAYS_MOST) && within(gangs, 1, 3) && within(bound, 0, 999);
        boolean known = pools > 0 && pools < 1 << poolCount && Integer.bitCount(pools) <= Planner.SET_MOST;
        if (!counted || !known || !within(day, dayNow() + 1, DAYS - days)
                || day * DAY_HOURS - 1 > hourNow() + HOURS_AHEAD) {
            return NONE;
        }
        planner.begin(days, gangs);
        for (int number = 0; number < poolCount; number++) {
            Pool p = poolAt(number);
            if (p != null && (pools >> number & 1) == 1 && tells(p, day * DAY_HOURS - 1)) {
                takeIntoPlan(p, day, days, bound);
            }
        }
        return planner.finish(day);
    }

    public int planned(int pool) {
        return within(pool, 0, poolCount - 1) ? at(planner.dayPlanned, pool) : NONE;
    }

    public int race(int pool, int day, int from, int hours, int low, int high, int wave) {
        Pool p = poolAt(pool);
        boolean timed = isDay(day) && within(day, dayNow(), dayNow() + RACE_DAYS)
                && within(from, 0, DAY_HOURS - 1) && within(hours, 1, 6);
        boolean bounded = within(low, 0, DEPTH_MOST) && within(high, 0, DEPTH_MOST) && within(wave, 0, 500);
        if (atEnd() || p == null || !timed || !bounded || !tells(p, day * DAY_HOURS + DAY_HOURS - 1)) {
            return NONE;
        }
        int run = 0;
        for (int h = Math.max(from, hourNow() - day * DAY_HOURS); h < DAY_HOURS; h++) {
            int hour = day * DAY_HOURS + h;
            int depth = at(p.levels, hour) - p.basin.floor;
            run = within(depth, low, high) && waves.heightOf(hour, hourNow()) <= wave ? run + 1 : 0;
            if (run == hours) {
                return h - hours + 1;
            }
        }
        return NO_RACE;
    }

    public int night(int pool, int a, int b, int ticks) {
        Pool p = poolAt(pool);
        if (atEnd() || p == null || !p.evidence.takesNight(a, b, ticks)) {
            return NONE;
        }
        return p.evidence.addNight(a, b, ticks);
    }

    public int suspect(int pool, int depth, int rate) {
        Pool p = poolAt(pool);
        if (atEnd() || p == null || !p.evidence.takesSuspect(depth, rate)) {
            return NONE;
        }
        return p.evidence.addSuspect(depth, rate);
    }

    public int cause(int pool) {
        Pool p = poolAt(pool);
        if (p == null) {
            return NONE;
        }
        soughtLast = p.evidence;
        return p.evidence.seek();
    }

    public int causes(int k, int i) {
        return soughtLast == null ? NONE : soughtLast.suspectOf(k, i);
    }

    public int look() {
        return soughtLast == null ? NONE : soughtLast.nextLook();
    }

    public int lease(int pool, int coins, int first, int last) {
        if (atEnd() || leaseCount >= leases.length || poolAt(pool) == null || !within(coins, 0, 999)
                || !isDay(first) || !isDay(last) || last < first) {
            return NONE;
        }
        leases[leaseCount] = new Lease(pool, coins, first, last);
        leaseCount++;
        return leaseCount - 1;
    }

    public int due(int lease, int known) {
        Lease l = leaseAt(lease);
        return l == null || !within(known, 0, hourNow() - 1) ? NONE : dueOf(l, known);
    }

    public int pay(int lease) {
        Lease l = leaseAt(lease);
        if (atEnd() || l == null) {
            return NO_COINS;
        }
        int before = l.paid;
        l.paid = dueOf(l, hourNow() - 1);
        return l.paid - before;
    }

    public int count(int what) {
        switch (what) {
            case 0: return now;
            case 1: return tides.size;
            case 2: return waves.size;
            case 3: return poolCount;
            case 4: return rulingCount;
            case 5: return samples.size;
            case 6: return leaseCount;
            case 7: return reader.length;
            case 8:
            case 9:
            case 10: return settingOf(what - 8);
            default: return what < 20 ? NONE : paidOf(what - 20);
        }
    }

    private int paidOf(int number) {
        Lease l = leaseAt(number);
        return l == null ? NONE : l.paid;
    }

    private int settingOf(int what) {
        switch (what) {
            case 0: return waves.worst;
            case 1: return waves.storm;
            default: return hoursWanted;
        }
    }

    private boolean atEnd() {
        return now >= TICKS;
    }

    private int hourNow() {
        return now / HOUR_TICKS;
    }

    private int dayNow() {
        return now / DAY_TICKS;
    }

    private Pool poolAt(int number) {
        return number >= 0 && number < pools.length ? pools[number] : null;
    }

    private Lease leaseAt(int number) {
        return number >= 0 && number < leases.length ? leases[number] : null;
    }

    /** Whether something is told of a pool in an hour; hours to come stand in its rows afterwards. */
    private boolean tells(Pool p, int hour) {
        if (!isHour(hour) || hour < p.came || hour > hourNow() + HOURS_AHEAD) {
            return false;
        }
        if (hour >= hourNow()) {
            p.foretell(hour, now, changes, tides, waves);
        }
        return true;
    }

    private Ruling inForce(int known) {
        for (int i = rulings.length - 1; i >= 0; i--) {
            Ruling each = rulings[i];
            if (each != null && each.knownFrom <= known) {
                return each;
            }
        }
        return null;
    }

    /** The pool's rows must reach the hour (see tells). */
    private int closingClause(Pool p, int hour, int known) {
        Ruling ruling = inForce(known);
        if (ruling == null) {
            return 0;
        }
        put(facts, DEPTH, at(p.levels, hour) - p.basin.floor);
        put(facts, SEA, tides.levelAt(hour * HOUR_TICKS + HOUR_TICKS - 1));
        put(facts, WAVE, waves.heightOf(hour, known));
        put(facts, AGE, at(p.ages, hour));
        put(facts, DIRT, at(p.dirts, hour));
        put(facts, HOUR, hour % DAY_HOURS);
        put(facts, DAY, hour / DAY_HOURS);
        // Tests are many and searched one by one: only rules that name them pay for that.
        if (ruling.namesTest) {
            put(facts, TEST, samples.resultOf(p.number, hour, known));
        }
        return ruling.firstTrue(facts);
    }

    private int openHours(Pool p, int day, int known) {
        int hours = 0;
        for (int h = 0; h < DAY_HOURS; h++) {
            if (closingClause(p, day * DAY_HOURS + h, known) == 0) {
                hours++;
            }
        }
        return hours;
    }

    private int dueOf(Lease l, int known) {
        Pool p = poolAt(l.pool);
        int days = 0;
        for (int day = l.first; day <= l.last && p != null; day++) {
            int firstHour = day * DAY_HOURS;
            boolean over = firstHour + DAY_HOURS - 1 <= known;
            if (over && p.came <= firstHour && openHours(p, day, known) >= hoursWanted) {
                days++;
            }
        }
        return days * l.coins;
    }

    private void takeIntoPlan(Pool p, int day, int days, int bound) {
        int place = planner.addPool(p.number);
        int start = at(p.dirts, day * DAY_HOURS - 1);
        for (int i = 0; i < days; i++) {
            if (at(p.freeDays, day + i) == 0 && tides.lowByDay(day + i, p.basin.floor)) {
                planner.offer(place, i, dirtCost(start, p.basin.sand, days, i, bound) + 1);
            }
        }
        planner.offer(place, days, dirtCost(start, p.basin.sand, days, NONE, bound));
    }

    /** What a pool's dirt costs over the days, if it is cleaned on one of them (NONE: on none). */
    private static int dirtCost(int start, int sand, int days, int cleaned, int bound) {
        int dirt = start;
        int cost = 0;
        for (int i = 0; i < days; i++) {
            dirt = i == cleaned ? 0 : dirt + sand;
            if (dirt > bound) {
                cost += 10;
            }
        }
        return cost;
    }

    private static boolean isHour(int hour) {
        return within(hour, 0, HOURS - 1);
    }

    private static boolean isDay(int day) {
        return within(day, 0, DAYS - 1);
    }

    private static boolean within(int value, int least, int most) {
        return value >= least && value <= most;
    }

    /** What stands at a place of a row; 0 for a place that it has not. */
    private static int at(int[] row, int place) {
        return place >= 0 && place < row.length ? row[place] : 0;
    }

    /** Writes at a place of a row; nothing happens for a place that it has not. */
    private static void put(int[] row, int place, int value) {
        if (place >= 0 && place < row.length) {
            row[place] = value;
        }
    }

    /** The turns of the tide, by ticks. */
    private static final class Tides {
        static final int MOST = 500;
        // Twelfths of the difference that are done after each sixth of the time.
        private static final int[] DONE = {0, 1, 3, 6, 9, 11, 12};

        final int[] ticks = new int[MOST];
        final int[] levels = new int[MOST];
        int size;

        boolean takes(int tick, int level) {
            if (size >= MOST || !within(tick, 0, TICKS - 1) || !within(level, -500, 900)) {
                return false;
            }
            return size == 0 || within(tick - at(ticks, size - 1), 6, 100);
        }

        int add(int tick, int level) {
            put(ticks, size, tick);
            put(levels, size, level);
            size++;
            return size;
        }

        int levelAt(int tick) {
            if (size == 0) {
                return 0;
            }
            int reached = turnsUpTo(tick);
            if (reached == 0) {
                return at(levels, 0);
            }
            if (reached == size) {
                return at(levels, size - 1);
            }
            int first = at(levels, reached - 1);
            int n = at(ticks, reached) - at(ticks, reached - 1);
            return first + changeAfter(tick - at(ticks, reached - 1), n, at(levels, reached) - first);
        }

        boolean lowByDay(int day, int floor) {
            for (int i = turnsUpTo(day * DAY_TICKS - 1); i < size; i++) {
                int hour = at(ticks, i) / HOUR_TICKS;
                if (hour / DAY_HOURS != day) {
                    return false;
                }
                boolean low = i == 0 || at(levels, i) < at(levels, i - 1);
                if (low && within(hour % DAY_HOURS, 7, 16) && at(levels, i) <= floor) {
                    return true;
                }
            }
            return false;
        }

        private int turnsUpTo(int tick) {
            int low = 0;
            int high = size;
            for (int halvings = 0; low < high && halvings < MOST; halvings++) {
                int middle = (low + high) / 2;
                if (at(ticks, middle) <= tick) {
                    low = middle + 1;
                } else {
                    high = middle;
                }
            }
            return low;
        }

        private static int changeAfter(int a, int n, int difference) {
            if (n <= 0) {
                return 0;
            }
            int j = 6 * a / n;
            int r = 6 * a - j * n;
            int part = at(DONE, j) * n + (at(DONE, j + 1) - at(DONE, j)) * r;
            return difference * part / (12 * n);
        }
    }

    /** The rows of waves, chained by their hours from the one told last back. */
    private static final class Waves {
        static final int MOST = 1500;

        // Here and in the chain 0 is no row, else the row's place and one.
        private final int[] latest = new int[HOURS];
        private final int[] earlier = new int[MOST];
        private final int[] knownFrom = new int[MOST];
        private final int[] heights = new int[MOST];
        int size;
        int worst = 100;
        int storm = 150;

        int add(int hour, int height, int hourNow) {
            put(earlier, size, at(latest, hour));
            put(knownFrom, size, hourNow);
            put(heights, size, height);
            size++;
            put(latest, hour, size);
            return size;
        }

        int heightOf(int hour, int known) {
            int link = at(latest, hour);
            for (int steps = 0; link > 0 && steps < MOST; steps++) {
                if (at(knownFrom, link - 1) <= known) {
                    return at(heights, link - 1);
                }
                link = at(earlier, link - 1);
            }
            return worst;
        }

        boolean stormyDay(int day) {
            int lastHour = day * DAY_HOURS + DAY_HOURS - 1;
            for (int hour = day * DAY_HOURS; hour <= lastHour; hour++) {
                if (heightOf(hour, lastHour) >= storm) {
                    return true;
                }
            }
            return false;
        }
    }

    /** A pool's walls and what is set up in it. */
    private static final class Basin {
        static final int CRACKS_MOST = 4;

        final int area;
        final int floor;
        final int wall;
        final int sill;
        final int sluiceRate;
        final int overRate;
        final int[] crackLevels = new int[CRACKS_MOST];
        final int[] crackRates = new int[CRACKS_MOST];
        int crackCount;
        int sand;
        int weed;
        int pumping;
        boolean isOpen;

        Basin(int area, int floor, int wall, int sill, int sluiceRate, int overRate) {
            this.area = area;
            this.floor = floor;
            this.wall = wall;
            this.sill = sill;
            this.sluiceRate = sluiceRate;
            this.overRate = overRate;
        }

        boolean takesCrack(int level, int rate) {
            return crackCount < CRACKS_MOST && within(level, floor, wall) && within(rate, 1, 50);
        }

        int addCrack(int level, int rate) {
            put(crackLevels, crackCount, level);
            put(crackRates, crackCount, rate);
            crackCount++;
            return crackCount;
        }
    }

    /** What changes in a pool tick by tick, as it is now or as it is foretold. */
    private static final class Water {
        int units;
        long old;
        int dirt;
        int pumped;

        void copy(Water other) {
            units = other.units;
            old = other.old;
            dirt = other.dirt;
            pumped = other.pumped;
        }

        int depthIn(Basin b) {
            return b.area > 0 ? units / b.area : 0;
        }

        int ageInHours() {
            return units > 0 ? (int) (old / units / HOUR_TICKS) : 0;
        }

        void flow(Basin b, int sea, int wave) {
            old += units;
            if (b.isOpen) {
                flowBySluice(b, sea);
            }
            for (int c = 0; c < b.crackCount; c++) {
                flowByCrack(b, sea, at(b.crackLevels, c), at(b.crackRates, c));
            }
            comeIn(b.overRate * (sea + wave - b.wall));
            flowByPump(b.pumping);
            flowAtWall(b, sea);
        }

        private void flowBySluice(Basin b, int sea) {
            int level = b.floor + depthIn(b);
            if (level <= b.sill && sea <= b.sill) {
                return;
            }
            if (sea > level) {
                comeIn(Math.min(b.sluiceRate * (sea - level), b.area * (sea - b.floor) - units));
            } else {
                int bottom = Math.max(sea, b.sill);
                goOut(Math.min(b.sluiceRate * (level - bottom), units - b.area * (bottom - b.floor)));
            }
        }

        private void flowByCrack(Basin b, int sea, int z, int rate) {
            int level = b.floor + depthIn(b);
            int bottom = Math.max(sea, z);
            if (level > bottom) {
                goOut(Math.min(rate * (level - bottom), units - b.area * (bottom - b.floor)));
                return;
            }
            bottom = Math.max(level, z);
            if (sea > bottom) {
                comeIn(Math.min(rate * (sea - bottom), b.area * (sea - b.floor) - units));
            }
        }

        private void flowByPump(int pumping) {
            int moved = pumping > 0 ? pumping : Math.min(-pumping, units);
            pumped += moved;
            if (pumping > 0) {
                comeIn(moved);
            } else {
                goOut(moved);
            }
        }

        private void flowAtWall(Basin b, int sea) {
            if (sea > b.wall) {
                units = b.area * (sea - b.floor);
                old = 0;
            } else {
                goOut(units - b.area * (b.wall - b.floor));
            }
        }

        private void comeIn(int more) {
            if (more > 0) {
                units += more;
            }
        }

        private void goOut(int less) {
            if (less > 0 && units > 0) {
                old -= old * less / units;
                units -= less;
            }
        }
    }

    /** A pool: its water now, and hour by hour as kept and, from now on, as foretold. */
    private static final class Pool {
        final Basin basin;
        final int number;
        final int came;
        final Water water = new Water();
        final Evidence evidence;
        final int[] levels = new int[HOURS];
        final int[] ages = new int[HOURS];
        final int[] dirts = new int[HOURS];
        final int[] freeDays = new int[DAYS];
        private final Water foretold = new Water();
        private int foretoldTick;
        private int foretoldAt = NONE;

        Pool(Basin basin, int number, int depth, int came) {
            this.basin = basin;
            this.number = number;
            this.came = came;
            this.evidence = new Evidence(basin.area);
            this.water.units = basin.area * depth;
        }

        void step(Water w, int tick, Tides tides, Waves waves) {
            int hour = tick / HOUR_TICKS;
            // No row that is told is known only later than the hour of a tick still to pass.
            w.flow(basin, tides.levelAt(tick), waves.heightOf(hour, hour));
            if (tick % DAY_TICKS == DAY_TICKS - 1) {
                w.dirt += basin.sand + (waves.stormyDay(tick / DAY_TICKS) ? basin.weed : 0);
            }
            if (tick % HOUR_TICKS == HOUR_TICKS - 1) {
                put(levels, hour, basin.floor + w.depthIn(basin));
                put(ages, hour, w.ageInHours());
                put(dirts, hour, w.dirt);
            }
        }

        void foretell(int hour, int now, int changes, Tides tides, Waves waves) {
            if (foretoldAt != changes) {
                foretold.copy(water);
                foretoldTick = now;
                foretoldAt = changes;
            }
            int end = hour * HOUR_TICKS + HOUR_TICKS;
            for (int tick = foretoldTick; tick < end; tick++) {
                step(foretold, tick, tides, waves);
            }
            foretoldTick = Math.max(foretoldTick, end);
        }
    }

    /** The tape, and the reading of it into a ruling's code: operands ahead of what joins them. */
    private static final class Reader {
        static final int TAPE_MOST = 300;
        private static final int CODE_MOST = 320;
        private static final int CLAUSES_MOST = 8;
        private static final int COMPARES_MOST = 24;
        private static final int NESTED_MOST = 10;
        private static final int DIGITS_MOST = 4;

        private static final int CANNOT_STAND = 0;
        private static final int TOO_MANY_DIGITS = 1;
        private static final int TOO_DEEP = 2;
        private static final int NINTH_CLAUSE = 3;
        private static final int TOO_MANY_COMPARES = 4;

        final int[] code = new int[CODE_MOST];
        int length;
        int size;
        int clauses;
        private final int[] bytes = new int[TAPE_MOST];
        private int place;
        private int wordEnd;
        private int compares;
        private int fault;

        void append(int four) {
            for (int shift = 24; shift >= 0; shift -= 8) {
                put(bytes, length, four >> shift & 255);
                length++;
            }
        }

        /** The fault of the tape's text, or 0: then its code stands. */
        int read() {
            place = 0;
            size = 0;
            clauses = 0;
            compares = 0;
            fault = 0;
            skipBlanks();
            boolean more = place < length;
            for (int c = 0; more && c <= CLAUSES_MOST; c++) {
                if (c == CLAUSES_MOST) {
                    refuse(canBegin() ? NINTH_CLAUSE : CANNOT_STAND);
                } else {
                    readEither(0);
                    emit(CLAUSE_END);
                    clauses++;
                }
                more = fault == 0 && place < length;
                if (more) {
                    takeByte(';');
                }
                more = more && fault == 0;
            }
            return fault;
        }

        private void readEither(int nested) {
            readBoth(nested);
            for (int n = 0; n < TAPE_MOST && takeWord(OR); n++) {
                readBoth(nested);
                emit(OR);
            }
        }

        private void readBoth(int nested) {
            readOne(nested);
            for (int n = 0; n < TAPE_MOST && takeWord(AND); n++) {
                readOne(nested);
                emit(AND);
            }
        }

        private void readOne(int nested) {
            if (fault != 0) {
                return;
            }
            int word = wordHere();
            if (!canBegin()) {
                refuse(CANNOT_STAND);
            } else if (word >= 0 && word < FACTS) {
                readCompare(word);
            } else if (nested >= NESTED_MOST) {
                refuse(TOO_DEEP);
            } else {
                readNested(nested + 1);
            }
        }

        private void readNested(int nested) {
            if (takeWord(NOT)) {
                readOne(nested);
                emit(NOT);
            } else {
                takeByte('(');
                readEither(nested);
                takeByte(')');
            }
        }

        private void readCompare(int word) {
            if (compares >= COMPARES_MOST) {
                refuse(TOO_MANY_COMPARES);
                return;
            }
            compares++;
            takeWord(word);
            int sign = takeSign();
            int number = takeNumber();
            emit(COMPARE + word * WORD_STEP + sign * SIGN_STEP + number);
        }

        private int takeSign() {
            int first = byteHere();
            if (first != '<' && first != '=' && first != '>') {
                refuse(CANNOT_STAND);
                return EQUAL;
            }
            place++;
            boolean widened = first != '=' && byteHere() == '=';
            if (widened) {
                place++;
            }
            skipBlanks();
            if (first == '=') {
                return EQUAL;
            }
            if (first == '<') {
                return widened ? AT_MOST : LESS;
            }
            return widened ? AT_LEAST : MORE;
        }

        private int takeNumber() {
            int start = place;
            int number = 0;
            for (int n = 0; n < TAPE_MOST && fault == 0 && within(byteHere(), '0', '9'); n++) {
                number = n < DIGITS_MOST ? number * 10 + byteHere() - '0' : number;
                place++;
            }
            int digits = place - start;
            if (digits == 0 || digits > DIGITS_MOST) {
                place = start;
                refuse(digits == 0 ? CANNOT_STAND : TOO_MANY_DIGITS);
            }
            skipBlanks();
            return number;
        }

        /** Whether what stands here can begin a ONE. */
        private boolean canBegin() {
            int word = wordHere();
            return byteHere() == '(' || word == NOT || word >= 0 && word < FACTS;
        }

        private boolean takeWord(int word) {
            if (fault != 0 || wordHere() != word) {
                return false;
            }
            place = wordEnd;
            skipBlanks();
            return true;
        }

        private void takeByte(int sign) {
            if (byteHere() != sign) {
                refuse(CANNOT_STAND);
            } else if (fault == 0) {
                place++;
                skipBlanks();
            }
        }

        /** Which word the letters from here on are, as far as letters go on; NONE for another. */
        private int wordHere() {
            int after = place;
            while (after < length && within(at(bytes, after), 'a', 'z')) {
                after++;
            }
            wordEnd = after;
            for (int word = 0; word < WORDS; word++) {
                if (isNamed(nameOf(word))) {
                    return word;
                }
            }
            return NONE;
        }

        private boolean isNamed(String name) {
            if (name.length() != wordEnd - place) {
                return false;
            }
            for (int i = 0; i < name.length(); i++) {
                if (name.charAt(i) != at(bytes, place + i)) {
                    return false;
                }
            }
            return true;
        }

        private static String nameOf(int word) {
            switch (word) {
                case DEPTH: return "depth";
                case SEA: return "sea";
                case WAVE: return "wave";
                case AGE: return "age";
                case DIRT: return "dirt";
                case HOUR: return "hour";
                case DAY: return "day";
                case TEST: return "test";
                case AND: return "and";
                case OR: return "or";
                default: return "not";
            }
        }

        private void skipBlanks() {
            while (place < length && byteHere() == ' ') {
                place++;
            }
        }

        private int byteHere() {
            return place >= 0 && place < length && place < bytes.length ? bytes[place] : NONE;
        }

        private void refuse(int kind) {
            if (fault == 0) {
                fault = 1 + 8 * place + kind;
            }
        }

        private void emit(int entry) {
            put(code, size, entry);
            size++;
        }
    }

    /** Rules told as one text. */
    private static final class Ruling {
        final int knownFrom;
        final boolean namesTest;
        private final int[] code;

        Ruling(int[] source, int size, int knownFrom) {
            this.knownFrom = knownFrom;
            this.code = new int[Math.max(0, Math.min(size, source.length))];
            boolean named = false;
            for (int i = 0; i < code.length; i++) {
                code[i] = at(source, i);
                named = named || code[i] >= COMPARE && (code[i] - COMPARE) / WORD_STEP == TEST;
            }
            this.namesTest = named;
        }

        /** The first clause that is true, and one; 0: none. */
        int firstTrue(int[] facts) {
            int clause = 0;
            // A stack of bits: ten others around each part leave it far below the 64 there are.
            long stack = 0;
            for (int i = 0; i < code.length; i++) {
                int entry = code[i];
                if (entry == CLAUSE_END) {
                    clause++;
                    if ((stack & 1) == 1) {
                        return clause;
                    }
                    stack = 0;
                } else if (entry == NOT) {
                    stack ^= 1;
                } else if (entry == AND || entry == OR) {
                    long right = stack & 1;
                    stack >>>= 1;
                    stack = entry == AND ? stack & (right | -2L) : stack | right;
                } else {
                    stack = stack << 1 | (holds(entry - COMPARE, facts) ? 1 : 0);
                }
            }
            return 0;
        }

        private static boolean holds(int compare, int[] facts) {
            int fact = at(facts, compare / WORD_STEP);
            int number = compare % SIGN_STEP;
            switch (compare % WORD_STEP / SIGN_STEP) {
                case LESS: return fact < number;
                case AT_MOST: return fact <= number;
                case EQUAL: return fact == number;
                case AT_LEAST: return fact >= number;
                default: return fact > number;
            }
        }
    }

    /** The tests of all pools, in the order in which they were told. */
    private static final class Samples {
        static final int MOST = 500;
        private static final int UNTESTED = 9999;

        private final int[] poolsOf = new int[MOST];
        private final int[] hours = new int[MOST];
        private final int[] results = new int[MOST];
        private final int[] knownFrom = new int[MOST];
        int size;

        int add(int pool, int hour, int result, int hourNow) {
            put(poolsOf, size, pool);
            put(hours, size, hour);
            put(results, size, result);
            put(knownFrom, size, hourNow);
            size++;
            return size;
        }

        int resultOf(int pool, int hour, int known) {
            int last = NONE;
            int result = UNTESTED;
            for (int i = 0; i < size; i++) {
                int taken = at(hours, i);
                if (at(poolsOf, i) == pool && taken >= last && taken <= hour && at(knownFrom, i) <= known) {
                    last = taken;
                    result = at(results, i);
                }
            }
            return result;
        }
    }

    /** The search for a cleaning plan: for each pool one choice, a day by its place or none. */
    private static final class Planner {
        static final int DAYS_MOST = 6;
        static final int SET_MOST = 4;
        private static final int CHOICES = 7;
        private static final int FORBIDDEN = -1;
        private static final int FAR = 1000000;

        final int[] dayPlanned = new int[POOLS_MOST];
        private final int[] numbers = new int[SET_MOST];
        private final int[] costs = new int[SET_MOST * CHOICES];
        private final int[] chosen = new int[SET_MOST];
        private final int[] best = new int[SET_MOST];
        private final int[] busyGangs = new int[CHOICES];
        private int size;
        private int days;
        private int gangs;
        private int leastCost;

        Planner() {
            Arrays.fill(dayPlanned, NONE);
        }

        void begin(int dayCount, int gangCount) {
            size = 0;
            days = dayCount;
            gangs = gangCount;
            leastCost = FAR;
            Arrays.fill(costs, FORBIDDEN);
            Arrays.fill(busyGangs, 0);
        }

        int addPool(int number) {
            put(numbers, size, number);
            size++;
            return size - 1;
        }

        void offer(int place, int choice, int cost) {
            put(costs, place * CHOICES + choice, cost);
        }

        int finish(int firstDay) {
            choose(0, 0);
            Arrays.fill(dayPlanned, NONE);
            for (int i = 0; i < size; i++) {
                int choice = at(best, i);
                put(dayPlanned, at(numbers, i), choice < days ? firstDay + choice : NONE);
            }
            return leastCost;
        }

        /** Goes through all choices in order: only a lesser cost takes the place of an earlier plan. */
        private void choose(int place, int cost) {
            if (cost >= leastCost || place > SET_MOST) {
                return;
            }
            if (place == size) {
                leastCost = cost;
                System.arraycopy(chosen, 0, best, 0, SET_MOST);
                return;
            }
            for (int choice = 0; choice <= days; choice++) {
                tryChoice(place, choice, cost);
            }
        }

        private void tryChoice(int place, int choice, int cost) {
            int more = at(costs, place * CHOICES + choice);
            int busy = at(busyGangs, choice);
            if (more != FORBIDDEN && (choice == days || busy < gangs)) {
                put(busyGangs, choice, busy + 1);
                put(chosen, place, choice);
                choose(place + 1, cost + more);
                put(busyGangs, choice, busy);
            }
        }
    }

    /** A pool's nights and suspects, and the sets of these that explained all nights when last sought. */
    private static final class Evidence {
        private static final int SUSPECTS_MOST = 8;
        private static final int NIGHTS_MOST = 20;
        private static final int SETS_MOST = 36;
        private static final int LOOK_STEP = 10;
        private static final int LOOK_LAST = 300;
        private static final int LOOK_TICKS = 12;

        private final int area;
        private final int[] from = new int[NIGHTS_MOST];
        private final int[] to = new int[NIGHTS_MOST];
        private final int[] times = new int[NIGHTS_MOST];
        private final int[] depths = new int[SUSPECTS_MOST];
        private final int[] rates = new int[SUSPECTS_MOST];
        // A set is the suspect in the one row, with that in the other, or NONE there.
        private final int[] ones = new int[SETS_MOST];
        private final int[] others = new int[SETS_MOST];
        private int nights;
        private int suspects;
        private int sets;

        Evidence(int area) {
            this.area = area;
        }

        boolean takesNight(int a, int b, int ticks) {
            return nights < NIGHTS_MOST && within(a, 0, DEPTH_MOST) && within(b, 0, a) && within(ticks, 1, 100);
        }

        int addNight(int a, int b, int ticks) {
            put(from, nights, a);
            put(to, nights, b);
            put(times, nights, ticks);
            nights++;
            return nights;
        }

        boolean takesSuspect(int depth, int rate) {
            return suspects < SUSPECTS_MOST && within(depth, 0, DEPTH_MOST) && within(rate, 1, 50);
        }

        int addSuspect(int depth, int rate) {
            put(depths, suspects, depth);
            put(rates, suspects, rate);
            suspects++;
            return suspects - 1;
        }

        int seek() {
            sets = 0;
            for (int one = 0; one < suspects; one++) {
                addIfExplaining(one, NONE);
            }
            for (int one = 0; one < suspects; one++) {
                for (int other = one + 1; other < suspects; other++) {
                    addIfExplaining(one, other);
                }
            }
            return sets;
        }

        int suspectOf(int k, int i) {
            if (!within(k, 0, sets - 1) || !within(i, 0, 1)) {
                return NONE;
            }
            return i == 0 ? at(ones, k) : at(others, k);
        }

        int nextLook() {
            if (sets < 2) {
                return NONE;
            }
            int look = NONE;
            int widest = NONE;
            for (int depth = LOOK_STEP; depth <= LOOK_LAST; depth += LOOK_STEP) {
                int spread = spreadFrom(depth);
                if (spread > widest) {
                    widest = spread;
                    look = depth;
                }
            }
            return look;
        }

        private int spreadFrom(int depth) {
            int least = depth;
            int most = 0;
            for (int k = 0; k < sets; k++) {
                int told = depthAfter(depth, LOOK_TICKS, at(ones, k), at(others, k));
                least = Math.min(least, told);
                most = Math.max(most, told);
            }
            return most - least;
        }

        private void addIfExplaining(int one, int other) {
            for (int i = 0; i < nights; i++) {
                int off = depthAfter(at(from, i), at(times, i), one, other) - at(to, i);
                if (!within(off, -1, 1)) {
                    return;
                }
            }
            put(ones, sets, one);
            put(others, sets, other);
            sets++;
        }

        private int depthAfter(int depth, int ticks, int one, int other) {
            int units = depth * area;
            for (int i = 0; i < ticks; i++) {
                units -= taken(units, one);
                if (other != NONE) {
                    units -= taken(units, other);
                }
            }
            return area > 0 ? units / area : 0;
        }

        private int taken(int units, int suspect) {
            int depth = area > 0 ? units / area : 0;
            int own = at(depths, suspect);
            return own < depth ? Math.min(at(rates, suspect) * (depth - own), units - area * own) : 0;
        }
    }

    /** A lease of a pool, and what was paid of it. */
    private static final class Lease {
        final int pool;
        final int coins;
        final int first;
        final int last;
        int paid;

        Lease(int pool, int coins, int first, int last) {
            this.pool = pool;
            this.coins = coins;
            this.first = first;
            this.last = last;
        }
    }
}
