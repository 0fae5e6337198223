import java.util.ArrayList;
import java.util.HashMap;
import java.util.List;
import java.util.Map;
import java.util.TreeMap;

/** The document once more, as plainly as can be and without any saving of work: PoolCoast is compared with it. */
final class PlainCoast {
    private static final int[] W = {0, 1, 3, 6, 9, 11, 12};

    /** What changes in a pool by itself. */
    private static final class State {
        long water;
        long old;
        int dirt;
        int pumped;
    }

    private static final class Pond {
        int area;
        int floor;
        int wall;
        int sill;
        int sluice;
        int over;
        int sand;
        int weed;
        int pump;
        int came;
        boolean open;
        State state = new State();
        final List<int[]> cracks = new ArrayList<>();
        final Map<Integer, int[]> kept = new HashMap<>();
        final boolean[] free = new boolean[100];
        final List<int[]> nights = new ArrayList<>();
        final List<int[]> suspects = new ArrayList<>();
    }

    private interface Part {
        boolean holds(Map<String, Integer> facts);
    }

    private static final class Text {
        int known;
        List<Part> clauses;
    }

    private static final class Fault extends RuntimeException {
        private static final long serialVersionUID = 1;
        final int number;

        Fault(int place, int kind) {
            super(null, null, false, false);
            number = 1 + 8 * place + kind;
        }
    }

    private final TreeMap<Integer, Integer> turns = new TreeMap<>();
    private final List<int[]> rows = new ArrayList<>();
    private final List<Pond> ponds = new ArrayList<>();
    private final List<Text> texts = new ArrayList<>();
    private final List<int[]> tests = new ArrayList<>();
    private final List<int[]> leases = new ArrayList<>();
    private StringBuilder tape = new StringBuilder();
    private int worst = 100;
    private int storm = 150;
    private int wanted = 8;
    private int now;
    private Map<Integer, Integer> planned = new HashMap<>();
    private Pond causePond;
    private List<int[]> causeSets = new ArrayList<>();

    private boolean over() {
        return now == 14400;
    }

    private Pond pond(int p) {
        return p >= 0 && p < ponds.size() ? ponds.get(p) : null;
    }

    private static boolean in(int v, int a, int b) {
        return a <= v && v <= b;
    }

    int turn(int tick, int level) {
        if (over() || turns.size() == 500 || !in(tick, 0, 14399) || !in(level, -500, 900)) {
            return -1;
        }
        if (!turns.isEmpty() && !in(tick - turns.lastKey(), 6, 100)) {
            return -1;
        }
        turns.put(tick, level);
        return turns.size();
    }

    int sea(int tick) {
        if (!in(tick, 0, 14399)) {
            return -1000;
        }
        if (turns.isEmpty()) {
            return 0;
        }
        Map.Entry<Integer, Integer> first = turns.floorEntry(tick);
        Map.Entry<Integer, Integer> second = turns.higherEntry(tick);
        if (first == null) {
            return turns.firstEntry().getValue();
        }
        if (second == null) {
            return turns.lastEntry().getValue();
        }
        int a = tick - first.getKey();
        int n = second.getKey() - first.getKey();
        int j = 6 * a / n;
        int r = 6 * a - j * n;
        int p = W[j] * n + (W[j + 1] - W[j]) * r;
        return first.getValue() + (second.getValue() - first.getValue()) * p / (12 * n);
    }

    int wave(int hour, int height) {
        if (over() || rows.size() == 1500 || !in(hour, 0, Math.min(2399, now / 6 + 240)) || !in(height, 0, 500)) {
            return -1;
        }
        rows.add(new int[] {hour, height, now / 6});
        return rows.size();
    }

    int waved(int hour, int known) {
        if (!in(hour, 0, 2399) || !in(known, 0, 2399)) {
            return -1;
        }
        int height = worst;
        for (int[] row : rows) {
            if (row[0] == hour && row[2] <= known) {
                height = row[1];
            }
        }
        return height;
    }

    int set(int what, int v) {
        if (over()) {
            return -1;
        }
        int was;
        if (what == 0 && in(v, 0, 500)) {
            was = worst;
            worst = v;
        } else if (what == 1 && in(v, 0, 500)) {
            was = storm;
            storm = v;
        } else if (what == 2 && in(v, 1, 24)) {
            was = wanted;
            wanted = v;
        } else {
            was = -1;
        }
        return was;
    }

    int pool(int area, int floor, int wall, int sill, int sluice, int over, int depth) {
        if (over() || ponds.size() == 11 || !in(area, 1, 2000) || !in(floor, -300, 800) || !in(wall, floor + 1, 900)
                || !in(sill, floor, wall) || !in(sluice, 0, 100) || !in(over, 0, 100)
                || !in(depth, 0, wall - floor)) {
            return -1;
        }
        Pond q = new Pond();
        q.area = area;
        q.floor = floor;
        q.wall = wall;
        q.sill = sill;
        q.sluice = sluice;
        q.over = over;
        q.came = now / 6;
        q.state.water = (long) area * depth;
        ponds.add(q);
        return ponds.size() - 1;
    }

    boolean dirt(int pool, int sand, int weed) {
        Pond q = pond(pool);
        if (over() || q == null || !in(sand, 0, 20) || !in(weed, 0, 20)) {
            return false;
        }
        q.sand = sand;
        q.weed = weed;
        return true;
    }

    int crack(int pool, int level, int rate) {
        Pond q = pond(pool);
        if (over() || q == null || q.cracks.size() == 4 || !in(level, q.floor, q.wall) || !in(rate, 1, 50)) {
            return -1;
        }
        q.cracks.add(new int[] {level, rate});
        return q.cracks.size();
    }

    int mend(int pool) {
        Pond q = pond(pool);
        if (over() || q == null) {
            return -1;
        }
        int n = q.cracks.size();
        q.cracks.clear();
        return n;
    }

    boolean sluice(int pool, boolean open) {
        Pond q = pond(pool);
        if (over() || q == null) {
            return false;
        }
        boolean changed = q.open != open;
        q.open = open;
        return changed;
    }

    int pump(int pool, int units) {
        Pond q = pond(pool);
        if (over() || q == null || !in(units, -1000, 1000)) {
            return -2000;
        }
        int was = q.pump;
        q.pump = units;
        return was;
    }

    int clean(int pool) {
        Pond q = pond(pool);
        if (over() || q == null || level(q, q.state) - q.floor > 5) {
            return -1;
        }
        int was = q.state.dirt;
        q.state.dirt = 0;
        return was;
    }

    int pass(int ticks) {
        if (!in(ticks, 1, 288) || now + ticks > 14400) {
            return -1;
        }
        for (int i = 0; i < ticks; i++) {
            for (Pond q : ponds) {
                tick(q, q.state, now, q.kept, now / 6);
            }
            now++;
        }
        return now;
    }

    private static long level(Pond q, State s) {
        return q.floor + Math.floorDiv(s.water, (long) q.area);
    }

    private static int age(State s) {
        return s.water == 0 ? 0 : (int) (s.old / s.water / 6);
    }

    private static void out(State s, long units) {
        if (units > 0) {
            s.old -= s.old * units / s.water;
            s.water -= units;
        }
    }

    private static void into(State s, long units) {
        if (units > 0) {
            s.water += units;
        }
    }

    private void tick(Pond q, State w, int tick, Map<Integer, int[]> to, int known) {
        long s = sea(tick);
        long v = waved(tick / 6, known);
        w.old += w.water;
        long l = level(q, w);
        if (q.open && (l > q.sill || s > q.sill)) {
            if (s > l) {
                into(w, Math.min(q.sluice * (s - l), q.area * (s - q.floor) - w.water));
            } else if (s < l) {
                long b = Math.max(s, q.sill);
                out(w, Math.min(q.sluice * (l - b), w.water - q.area * (b - q.floor)));
            }
        }
        for (int[] crack : q.cracks) {
            l = level(q, w);
            long b = Math.max(s, crack[0]);
            long d = Math.max(l, crack[0]);
            if (l > b) {
                out(w, Math.min(crack[1] * (l - b), w.water - q.area * (b - q.floor)));
            } else if (s > d) {
                into(w, Math.min(crack[1] * (s - d), q.area * (s - q.floor) - w.water));
            }
        }
        if (s + v > q.wall) {
            into(w, q.over * (s + v - q.wall));
        }
        if (q.pump > 0) {
            into(w, q.pump);
            w.pumped += q.pump;
        }
        if (q.pump < 0) {
            long less = Math.min(-q.pump, w.water);
            out(w, less);
            w.pumped += (int) less;
        }
        if (s > q.wall) {
            w.water = q.area * (s - q.floor);
            w.old = 0;
        } else {
            out(w, w.water - (long) q.area * (q.wall - q.floor));
        }
        if (tick % 144 == 143) {
            boolean stormy = false;
            for (int h = tick / 144 * 24; h <= tick / 6; h++) {
                stormy |= waved(h, known) >= storm;
            }
            w.dirt += q.sand + (stormy ? q.weed : 0);
        }
        if (tick % 6 == 5) {
            to.put(tick / 6, new int[] {(int) level(q, w), age(w), w.dirt});
        }
    }

    int about(int pool, int what) {
        Pond q = pond(pool);
        if (q == null || !in(what, 0, 7)) {
            return -1000;
        }
        int[] all = {(int) level(q, q.state), (int) q.state.water, age(q.state), q.state.dirt, q.open ? 1 : 0,
            q.cracks.size(), q.state.pumped, q.area};
        return all[what];
    }

    /** All hours of a pool, kept and foretold. */
    private Map<Integer, int[]> story(Pond q) {
        Map<Integer, int[]> all = new HashMap<>(q.kept);
        State s = new State();
        s.water = q.state.water;
        s.old = q.state.old;
        s.dirt = q.state.dirt;
        for (int tick = now; tick < Math.min(14400, (now / 6 + 241) * 6); tick++) {
            tick(q, s, tick, all, Math.min(2399, now / 6));
        }
        return all;
    }

    int hour(int pool, int hour, int what) {
        Pond q = pond(pool);
        if (q == null || !in(what, 0, 2)) {
            return -1000;
        }
        int[] three = story(q).get(hour);
        return three == null ? -1000 : three[what];
    }

    int feed(int a, int b, int c, int d, int e) {
        if (tape.length() + 20 > 300) {
            return -1;
        }
        for (int number : new int[] {a, b, c, d, e}) {
            tape.append((char) (number >>> 24)).append((char) (number >>> 16 & 255));
            tape.append((char) (number >>> 8 & 255)).append((char) (number & 255));
        }
        return tape.length();
    }

    int end(int n) {
        if (!in(n, 0, tape.length())) {
            return -1;
        }
        tape.setLength(n);
        return n;
    }

    int rules() {
        if (over() || texts.size() == 10) {
            return -1;
        }
        String text = tape.toString();
        tape = new StringBuilder();
        try {
            Text t = new Text();
            t.known = now / 6;
            t.clauses = new Reading(text).clauses();
            texts.add(t);
            return t.clauses.size();
        } catch (Fault f) {
            return -2 - f.number;
        }
    }

    /** Reads a text by cutting it into tokens first. */
    private static final class Reading {
        private final List<String> tokens = new ArrayList<>();
        private final List<Integer> places = new ArrayList<>();
        private int at;
        private int compares;

        Reading(String text) {
            int i = 0;
            while (i < text.length()) {
                int start = i;
                char c = text.charAt(i++);
                if (c == ' ') {
                    continue;
                }
                if (c >= 'a' && c <= 'z') {
                    while (i < text.length() && text.charAt(i) >= 'a' && text.charAt(i) <= 'z') {
                        i++;
                    }
                } else if (c >= '0' && c <= '9') {
                    while (i < text.length() && text.charAt(i) >= '0' && text.charAt(i) <= '9') {
                        i++;
                    }
                } else if ((c == '<' || c == '>') && i < text.length() && text.charAt(i) == '=') {
                    i++;
                }
                tokens.add(text.substring(start, i));
                places.add(start);
            }
            tokens.add("");
            places.add(text.length());
        }

        private String peek() {
            return tokens.get(at);
        }

        private Fault fault(int kind) {
            return new Fault(places.get(at), kind);
        }

        private boolean isFact() {
            return List.of("depth", "sea", "wave", "age", "dirt", "hour", "day", "test").contains(peek());
        }

        List<Part> clauses() {
            List<Part> all = new ArrayList<>();
            if (tokens.size() == 1) {
                return all;
            }
            while (true) {
                if (all.size() == 8 && (isFact() || peek().equals("not") || peek().equals("("))) {
                    throw fault(3);
                }
                all.add(either(0));
                if (peek().isEmpty()) {
                    return all;
                }
                need(";");
            }
        }

        private void need(String token) {
            if (!peek().equals(token)) {
                throw fault(0);
            }
            at++;
        }

        private Part either(int depth) {
            Part left = both(depth);
            while (peek().equals("or")) {
                at++;
                Part a = left;
                Part b = both(depth);
                left = f -> a.holds(f) || b.holds(f);
            }
            return left;
        }

        private Part both(int depth) {
            Part left = one(depth);
            while (peek().equals("and")) {
                at++;
                Part a = left;
                Part b = one(depth);
                left = f -> a.holds(f) && b.holds(f);
            }
            return left;
        }

        private Part one(int depth) {
            if (peek().equals("not") || peek().equals("(")) {
                if (depth == 10) {
                    throw fault(2);
                }
                boolean not = peek().equals("not");
                at++;
                Part inner = not ? one(depth + 1) : either(depth + 1);
                if (!not) {
                    need(")");
                }
                return f -> not != inner.holds(f);
            }
            if (!isFact()) {
                throw fault(0);
            }
            if (compares++ == 24) {
                throw fault(4);
            }
            String word = tokens.get(at++);
            if (!List.of("<", "<=", "=", ">=", ">").contains(peek())) {
                throw fault(0);
            }
            String sign = tokens.get(at++);
            String digits = peek();
            if (digits.isEmpty() || digits.charAt(0) < '0' || digits.charAt(0) > '9') {
                throw fault(0);
            }
            if (digits.length() > 4) {
                throw fault(1);
            }
            at++;
            int number = Integer.parseInt(digits);
            return f -> compare(f.get(word), sign, number);
        }

        private static boolean compare(int a, String sign, int b) {
            return a < b && sign.charAt(0) == '<' || a > b && sign.charAt(0) == '>' || a == b && sign.endsWith("=");
        }
    }

    int test(int pool, int hour, int result) {
        if (over() || tests.size() == 500 || pond(pool) == null || !in(hour, 0, now / 6) || !in(result, 0, 9999)) {
            return -1;
        }
        tests.add(new int[] {pool, hour, result, now / 6});
        return tests.size();
    }

    int closed(int pool, int hour, int known) {
        Pond q = pond(pool);
        if (q == null || !in(known, 0, 2399)) {
            return -1;
        }
        int[] three = story(q).get(hour);
        return three == null ? -1 : closing(pool, hour, known, three);
    }

    private int closing(int pool, int hour, int known, int[] three) {
        Text last = null;
        for (Text t : texts) {
            if (t.known <= known) {
                last = t;
            }
        }
        if (last == null) {
            return 0;
        }
        int[] best = {0, -1, 9999, 0};
        for (int[] t : tests) {
            if (t[0] == pool && t[1] <= hour && t[3] <= known && t[1] >= best[1]) {
                best = t;
            }
        }
        Map<String, Integer> facts = new HashMap<>();
        facts.put("depth", three[0] - ponds.get(pool).floor);
        facts.put("sea", sea(hour * 6 + 5));
        facts.put("wave", waved(hour, known));
        facts.put("age", three[1]);
        facts.put("dirt", three[2]);
        facts.put("hour", hour % 24);
        facts.put("day", hour / 24);
        facts.put("test", best[2]);
        for (int i = 0; i < last.clauses.size(); i++) {
            if (last.clauses.get(i).holds(facts)) {
                return i + 1;
            }
        }
        return 0;
    }

    int open(int pool, int day, int known) {
        Pond q = pond(pool);
        if (q == null || !in(known, 0, 2399) || !in(day, 0, 99)) {
            return -1;
        }
        return openHours(pool, story(q), day, known);
    }

    private int openHours(int pool, Map<Integer, int[]> story, int day, int known) {
        int hours = 0;
        for (int h = day * 24; h < day * 24 + 24; h++) {
            if (story.get(h) == null) {
                return -1;
            }
            hours += closing(pool, h, known, story.get(h)) == 0 ? 1 : 0;
        }
        return hours;
    }

    boolean free(int pool, int day, boolean is) {
        Pond q = pond(pool);
        if (over() || q == null || !in(day, 0, 99)) {
            return false;
        }
        boolean changed = q.free[day] != is;
        q.free[day] = is;
        return changed;
    }

    int low(int pool, int day) {
        Pond q = pond(pool);
        if (q == null || !in(day, 0, 99)) {
            return -1;
        }
        Integer ahead = null;
        for (Map.Entry<Integer, Integer> turn : turns.entrySet()) {
            int tick = turn.getKey();
            int level = turn.getValue();
            boolean isLow = ahead == null || level < ahead;
            if (isLow && tick / 144 == day && in(tick / 6 % 24, 7, 16) && level <= q.floor) {
                return 1;
            }
            ahead = level;
        }
        return 0;
    }

    int plan(int pools, int day, int days, int gangs, int bound) {
        List<Integer> of = new ArrayList<>();
        for (int p = 0; p < 32; p++) {
            if ((pools >>> p & 1) == 1) {
                of.add(p);
            }
        }
        if (of.isEmpty() || of.size() > 4 || of.get(of.size() - 1) >= ponds.size() || !in(days, 1, 6)
                || !in(gangs, 1, 3) || !in(bound, 0, 999) || !in(day, now / 144 + 1, 99) || day + days - 1 > 99
                || day * 24 - 1 > now / 6 + 240) {
            return -1;
        }
        int[] starts = new int[of.size()];
        for (int i = 0; i < starts.length; i++) {
            starts[i] = story(ponds.get(of.get(i))).get(day * 24 - 1)[2];
        }
        int all = 1;
        for (int i = 0; i < of.size(); i++) {
            all *= days + 1;
        }
        int best = Integer.MAX_VALUE;
        for (int code = 0; code < all; code++) {
            int[] choice = new int[of.size()];
            for (int i = choice.length - 1, c = code; i >= 0; i--, c /= days + 1) {
                choice[i] = c % (days + 1);
            }
            int cost = planCost(of, choice, starts, day, days, gangs, bound);
            if (cost >= 0 && cost < best) {
                best = cost;
                planned = new HashMap<>();
                for (int i = 0; i < choice.length; i++) {
                    planned.put(of.get(i), choice[i] == days ? -1 : day + choice[i]);
                }
            }
        }
        return best;
    }

    private int planCost(List<Integer> of, int[] choice, int[] starts, int day, int days, int gangs, int bound) {
        int cost = 0;
        int[] busy = new int[days + 1];
        for (int i = 0; i < choice.length; i++) {
            Pond q = ponds.get(of.get(i));
            int dirt = starts[i];
            if (choice[i] < days) {
                busy[choice[i]]++;
                cost++;
                if (busy[choice[i]] > gangs || q.free[day + choice[i]] || low(of.get(i), day + choice[i]) != 1) {
                    return -1;
                }
            }
            for (int d = 0; d < days; d++) {
                dirt += q.sand;
                if (d == choice[i]) {
                    dirt = 0;
                }
                cost += dirt > bound ? 10 : 0;
            }
        }
        return cost;
    }

    int planned(int pool) {
        return planned.getOrDefault(pool, -1);
    }

    int race(int pool, int day, int from, int hours, int low, int high, int wave) {
        Pond q = pond(pool);
        if (over() || q == null || !in(day, now / 144, Math.min(99, now / 144 + 9)) || !in(from, 0, 23)
                || !in(hours, 1, 6) || !in(low, 0, 1200) || !in(high, 0, 1200) || !in(wave, 0, 500)) {
            return -1;
        }
        Map<Integer, int[]> story = story(q);
        for (int h = from; h + hours <= 24; h++) {
            boolean fits = true;
            for (int k = day * 24 + h; k < day * 24 + h + hours; k++) {
                fits &= k >= now / 6 && story.get(k) != null && in(story.get(k)[0] - q.floor, low, high)
                    && waved(k, now / 6) <= wave;
            }
            if (fits) {
                return h;
            }
        }
        return -2;
    }

    int night(int pool, int a, int b, int ticks) {
        Pond q = pond(pool);
        if (over() || q == null || q.nights.size() == 20 || !in(a, 0, 1200) || !in(b, 0, 1200) || a < b
                || !in(ticks, 1, 100)) {
            return -1;
        }
        q.nights.add(new int[] {a, b, ticks});
        return q.nights.size();
    }

    int suspect(int pool, int depth, int rate) {
        Pond q = pond(pool);
        if (over() || q == null || q.suspects.size() == 8 || !in(depth, 0, 1200) || !in(rate, 1, 50)) {
            return -1;
        }
        q.suspects.add(new int[] {depth, rate});
        return q.suspects.size() - 1;
    }

    /** The depth that one suspect of a pool explains, to make up nights that have a cause. */
    int toldByOne(int pool, int suspect, int depth, int ticks) {
        Pond q = pond(pool);
        boolean there = q != null && suspect < q.suspects.size();
        return there ? told(q, new int[] {suspect}, depth, ticks) : depth;
    }

    private static int told(Pond q, int[] set, int depth, int ticks) {
        long units = (long) depth * q.area;
        for (int t = 0; t < ticks; t++) {
            for (int number : set) {
                int[] suspect = q.suspects.get(number);
                long d = units / q.area;
                if (suspect[0] < d) {
                    units -= Math.min(suspect[1] * (d - suspect[0]), units - (long) q.area * suspect[0]);
                }
            }
        }
        return (int) (units / q.area);
    }

    int cause(int pool) {
        Pond q = pond(pool);
        if (q == null) {
            return -1;
        }
        List<int[]> sets = new ArrayList<>();
        int n = q.suspects.size();
        for (int a = 0; a < n; a++) {
            sets.add(new int[] {a});
        }
        for (int a = 0; a < n; a++) {
            for (int b = a + 1; b < n; b++) {
                sets.add(new int[] {a, b});
            }
        }
        sets.removeIf(set -> {
            for (int[] night : q.nights) {
                if (Math.abs(told(q, set, night[0], night[2]) - night[1]) > 1) {
                    return true;
                }
            }
            return false;
        });
        causePond = q;
        causeSets = sets;
        return sets.size();
    }

    int causes(int k, int i) {
        if (k < 0 || k >= causeSets.size() || i < 0 || i >= causeSets.get(k).length) {
            return -1;
        }
        return causeSets.get(k)[i];
    }

    int look() {
        if (causeSets.size() < 2) {
            return -1;
        }
        int best = 0;
        int bestSpread = -1;
        for (int depth = 10; depth <= 300; depth += 10) {
            int least = Integer.MAX_VALUE;
            int most = Integer.MIN_VALUE;
            for (int[] set : causeSets) {
                int told = told(causePond, set, depth, 12);
                least = Math.min(least, told);
                most = Math.max(most, told);
            }
            if (most - least > bestSpread) {
                bestSpread = most - least;
                best = depth;
            }
        }
        return best;
    }

    int lease(int pool, int coins, int first, int last) {
        if (over() || leases.size() == 10 || pond(pool) == null || !in(coins, 0, 999) || !in(first, 0, 99)
                || !in(last, first, 99)) {
            return -1;
        }
        leases.add(new int[] {pool, coins, first, last, 0});
        return leases.size() - 1;
    }

    private int dueOf(int[] lease, int known) {
        int days = 0;
        Map<Integer, int[]> story = story(ponds.get(lease[0]));
        for (int d = lease[2]; d <= lease[3]; d++) {
            if (d * 24 + 23 <= known && openHours(lease[0], story, d, known) >= wanted) {
                days++;
            }
        }
        return days * lease[1];
    }

    int due(int lease, int known) {
        if (!in(lease, 0, leases.size() - 1) || !in(known, 0, now / 6 - 1)) {
            return -1;
        }
        return dueOf(leases.get(lease), known);
    }

    int pay(int lease) {
        if (over() || !in(lease, 0, leases.size() - 1)) {
            return -1000000;
        }
        int[] l = leases.get(lease);
        int due = now < 6 ? 0 : dueOf(l, now / 6 - 1);
        int paid = due - l[4];
        l[4] = due;
        return paid;
    }

    int count(int what) {
        int[] all = {now, turns.size(), rows.size(), ponds.size(), texts.size(), tests.size(), leases.size(),
            tape.length(), worst, storm, wanted};
        if (in(what, 0, 10)) {
            return all[what];
        }
        return in(what, 20, 20 + leases.size() - 1) ? leases.get(what - 20)[4] : -1;
    }
}
